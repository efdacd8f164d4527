theorem dL_law_506_b : (decode cL_law 506 = .ok (.iconst 2, 1)) ∧ (decode cL_law 507 = .ok (.iadd, 1)) ∧ (decode cL_law 508 = .ok (.iaload, 1)) ∧ (decode cL_law 509 = .ok (.aload_n 0, 1)) ∧ (decode cL_law 510 = .ok (.iload_n 3, 1)) ∧ (decode cL_law 511 = .ok (.iconst 3, 1)) ∧ (decode cL_law 512 = .ok (.iadd, 1)) ∧ (decode cL_law 513 = .ok (.iaload, 1)) := by decide +kernel
theorem dL_law_506 : decode cL_law 506 = .ok (.iconst 2, 1) := dL_law_506_b.1
theorem dL_law_507 : decode cL_law 507 = .ok (.iadd, 1) := dL_law_506_b.2.1
theorem dL_law_508 : decode cL_law 508 = .ok (.iaload, 1) := dL_law_506_b.2.2.1
theorem dL_law_509 : decode cL_law 509 = .ok (.aload_n 0, 1) := dL_law_506_b.2.2.2.1
theorem dL_law_510 : decode cL_law 510 = .ok (.iload_n 3, 1) := dL_law_506_b.2.2.2.2.1
theorem dL_law_511 : decode cL_law 511 = .ok (.iconst 3, 1) := dL_law_506_b.2.2.2.2.2.1
theorem dL_law_512 : decode cL_law 512 = .ok (.iadd, 1) := dL_law_506_b.2.2.2.2.2.2.1
theorem dL_law_513 : decode cL_law 513 = .ok (.iaload, 1) := dL_law_506_b.2.2.2.2.2.2.2
theorem dL_law_514_b : (decode cL_law 514 = .ok (.invokevirtual 45, 3)) ∧ (decode cL_law 517 = .ok (.pop2, 1)) ∧ (decode cL_law 518 = .ok (.goto 905, 3)) ∧ (decode cL_law 521 = .ok (.aload_n 1, 1)) ∧ (decode cL_law 522 = .ok (.aload_n 0, 1)) ∧ (decode cL_law 523 = .ok (.iload_n 3, 1)) ∧ (decode cL_law 524 = .ok (.iconst 1, 1)) ∧ (decode cL_law 525 = .ok (.iadd, 1)) := by decide +kernel
theorem dL_law_514 : decode cL_law 514 = .ok (.invokevirtual 45, 3) := dL_law_514_b.1
theorem dL_law_517 : decode cL_law 517 = .ok (.pop2, 1) := dL_law_514_b.2.1
theorem dL_law_518 : decode cL_law 518 = .ok (.goto 905, 3) := dL_law_514_b.2.2.1
theorem dL_law_521 : decode cL_law 521 = .ok (.aload_n 1, 1) := dL_law_514_b.2.2.2.1
theorem dL_law_522 : decode cL_law 522 = .ok (.aload_n 0, 1) := dL_law_514_b.2.2.2.2.1
theorem dL_law_523 : decode cL_law 523 = .ok (.iload_n 3, 1) := dL_law_514_b.2.2.2.2.2.1
theorem dL_law_524 : decode cL_law 524 = .ok (.iconst 1, 1) := dL_law_514_b.2.2.2.2.2.2.1
theorem dL_law_525 : decode cL_law 525 = .ok (.iadd, 1) := dL_law_514_b.2.2.2.2.2.2.2
theorem dL_law_526_b : (decode cL_law 526 = .ok (.iaload, 1)) ∧ (decode cL_law 527 = .ok (.invokevirtual 46, 3)) ∧ (decode cL_law 530 = .ok (.pop, 1)) ∧ (decode cL_law 531 = .ok (.aload_n 2, 1)) ∧ (decode cL_law 532 = .ok (.aload_n 0, 1)) ∧ (decode cL_law 533 = .ok (.iload_n 3, 1)) ∧ (decode cL_law 534 = .ok (.iconst 1, 1)) ∧ (decode cL_law 535 = .ok (.iadd, 1)) := by decide +kernel
theorem dL_law_526 : decode cL_law 526 = .ok (.iaload, 1) := dL_law_526_b.1
theorem dL_law_527 : decode cL_law 527 = .ok (.invokevirtual 46, 3) := dL_law_526_b.2.1
theorem dL_law_530 : decode cL_law 530 = .ok (.pop, 1) := dL_law_526_b.2.2.1
theorem dL_law_531 : decode cL_law 531 = .ok (.aload_n 2, 1) := dL_law_526_b.2.2.2.1
theorem dL_law_532 : decode cL_law 532 = .ok (.aload_n 0, 1) := dL_law_526_b.2.2.2.2.1
theorem dL_law_533 : decode cL_law 533 = .ok (.iload_n 3, 1) := dL_law_526_b.2.2.2.2.2.1
theorem dL_law_534 : decode cL_law 534 = .ok (.iconst 1, 1) := dL_law_526_b.2.2.2.2.2.2.1
theorem dL_law_535 : decode cL_law 535 = .ok (.iadd, 1) := dL_law_526_b.2.2.2.2.2.2.2
theorem dL_law_536_b : (decode cL_law 536 = .ok (.iaload, 1)) ∧ (decode cL_law 537 = .ok (.invokevirtual 49, 3)) ∧ (decode cL_law 540 = .ok (.pop, 1)) ∧ (decode cL_law 541 = .ok (.goto 882, 3)) ∧ (decode cL_law 544 = .ok (.aload_n 1, 1)) ∧ (decode cL_law 545 = .ok (.invokevirtual 50, 3)) ∧ (decode cL_law 548 = .ok (.pop, 1)) ∧ (decode cL_law 549 = .ok (.aload_n 2, 1)) := by decide +kernel
theorem dL_law_536 : decode cL_law 536 = .ok (.iaload, 1) := dL_law_536_b.1
theorem dL_law_537 : decode cL_law 537 = .ok (.invokevirtual 49, 3) := dL_law_536_b.2.1
theorem dL_law_540 : decode cL_law 540 = .ok (.pop, 1) := dL_law_536_b.2.2.1
theorem dL_law_541 : decode cL_law 541 = .ok (.goto 882, 3) := dL_law_536_b.2.2.2.1
theorem dL_law_544 : decode cL_law 544 = .ok (.aload_n 1, 1) := dL_law_536_b.2.2.2.2.1
theorem dL_law_545 : decode cL_law 545 = .ok (.invokevirtual 50, 3) := dL_law_536_b.2.2.2.2.2.1
theorem dL_law_548 : decode cL_law 548 = .ok (.pop, 1) := dL_law_536_b.2.2.2.2.2.2.1
theorem dL_law_549 : decode cL_law 549 = .ok (.aload_n 2, 1) := dL_law_536_b.2.2.2.2.2.2.2
theorem dL_law_550_b : (decode cL_law 550 = .ok (.invokevirtual 54, 3)) ∧ (decode cL_law 553 = .ok (.pop, 1)) ∧ (decode cL_law 554 = .ok (.goto 869, 3)) ∧ (decode cL_law 557 = .ok (.aload_n 1, 1)) ∧ (decode cL_law 558 = .ok (.aload_n 0, 1)) ∧ (decode cL_law 559 = .ok (.iload_n 3, 1)) ∧ (decode cL_law 560 = .ok (.iconst 1, 1)) ∧ (decode cL_law 561 = .ok (.iadd, 1)) := by decide +kernel
theorem dL_law_550 : decode cL_law 550 = .ok (.invokevirtual 54, 3) := dL_law_550_b.1
theorem dL_law_553 : decode cL_law 553 = .ok (.pop, 1) := dL_law_550_b.2.1
theorem dL_law_554 : decode cL_law 554 = .ok (.goto 869, 3) := dL_law_550_b.2.2.1
theorem dL_law_557 : decode cL_law 557 = .ok (.aload_n 1, 1) := dL_law_550_b.2.2.2.1
theorem dL_law_558 : decode cL_law 558 = .ok (.aload_n 0, 1) := dL_law_550_b.2.2.2.2.1
theorem dL_law_559 : decode cL_law 559 = .ok (.iload_n 3, 1) := dL_law_550_b.2.2.2.2.2.1
theorem dL_law_560 : decode cL_law 560 = .ok (.iconst 1, 1) := dL_law_550_b.2.2.2.2.2.2.1
theorem dL_law_561 : decode cL_law 561 = .ok (.iadd, 1) := dL_law_550_b.2.2.2.2.2.2.2
theorem dL_law_562_b : (decode cL_law 562 = .ok (.iaload, 1)) ∧ (decode cL_law 563 = .ok (.aload_n 0, 1)) ∧ (decode cL_law 564 = .ok (.iload_n 3, 1)) ∧ (decode cL_law 565 = .ok (.iconst 2, 1)) ∧ (decode cL_law 566 = .ok (.iadd, 1)) ∧ (decode cL_law 567 = .ok (.iaload, 1)) ∧ (decode cL_law 568 = .ok (.aload_n 0, 1)) ∧ (decode cL_law 569 = .ok (.iload_n 3, 1)) := by decide +kernel
theorem dL_law_562 : decode cL_law 562 = .ok (.iaload, 1) := dL_law_562_b.1
theorem dL_law_563 : decode cL_law 563 = .ok (.aload_n 0, 1) := dL_law_562_b.2.1
theorem dL_law_564 : decode cL_law 564 = .ok (.iload_n 3, 1) := dL_law_562_b.2.2.1
theorem dL_law_565 : decode cL_law 565 = .ok (.iconst 2, 1) := dL_law_562_b.2.2.2.1
theorem dL_law_566 : decode cL_law 566 = .ok (.iadd, 1) := dL_law_562_b.2.2.2.2.1
theorem dL_law_567 : decode cL_law 567 = .ok (.iaload, 1) := dL_law_562_b.2.2.2.2.2.1
theorem dL_law_568 : decode cL_law 568 = .ok (.aload_n 0, 1) := dL_law_562_b.2.2.2.2.2.2.1
theorem dL_law_569 : decode cL_law 569 = .ok (.iload_n 3, 1) := dL_law_562_b.2.2.2.2.2.2.2
theorem dL_law_570_b : (decode cL_law 570 = .ok (.iconst 3, 1)) ∧ (decode cL_law 571 = .ok (.iadd, 1)) ∧ (decode cL_law 572 = .ok (.iaload, 1)) ∧ (decode cL_law 573 = .ok (.aload_n 0, 1)) ∧ (decode cL_law 574 = .ok (.iload_n 3, 1)) ∧ (decode cL_law 575 = .ok (.iconst 4, 1)) ∧ (decode cL_law 576 = .ok (.iadd, 1)) ∧ (decode cL_law 577 = .ok (.iaload, 1)) := by decide +kernel
theorem dL_law_570 : decode cL_law 570 = .ok (.iconst 3, 1) := dL_law_570_b.1
theorem dL_law_571 : decode cL_law 571 = .ok (.iadd, 1) := dL_law_570_b.2.1
theorem dL_law_572 : decode cL_law 572 = .ok (.iaload, 1) := dL_law_570_b.2.2.1
theorem dL_law_573 : decode cL_law 573 = .ok (.aload_n 0, 1) := dL_law_570_b.2.2.2.1
theorem dL_law_574 : decode cL_law 574 = .ok (.iload_n 3, 1) := dL_law_570_b.2.2.2.2.1
theorem dL_law_575 : decode cL_law 575 = .ok (.iconst 4, 1) := dL_law_570_b.2.2.2.2.2.1
theorem dL_law_576 : decode cL_law 576 = .ok (.iadd, 1) := dL_law_570_b.2.2.2.2.2.2.1
theorem dL_law_577 : decode cL_law 577 = .ok (.iaload, 1) := dL_law_570_b.2.2.2.2.2.2.2
theorem dL_law_578_b : (decode cL_law 578 = .ok (.invokevirtual 55, 3)) ∧ (decode cL_law 581 = .ok (.pop, 1)) ∧ (decode cL_law 582 = .ok (.aload_n 2, 1)) ∧ (decode cL_law 583 = .ok (.aload_n 0, 1)) ∧ (decode cL_law 584 = .ok (.iload_n 3, 1)) ∧ (decode cL_law 585 = .ok (.iconst 1, 1)) ∧ (decode cL_law 586 = .ok (.iadd, 1)) ∧ (decode cL_law 587 = .ok (.iaload, 1)) := by decide +kernel
theorem dL_law_578 : decode cL_law 578 = .ok (.invokevirtual 55, 3) := dL_law_578_b.1
theorem dL_law_581 : decode cL_law 581 = .ok (.pop, 1) := dL_law_578_b.2.1
theorem dL_law_582 : decode cL_law 582 = .ok (.aload_n 2, 1) := dL_law_578_b.2.2.1
theorem dL_law_583 : decode cL_law 583 = .ok (.aload_n 0, 1) := dL_law_578_b.2.2.2.1
theorem dL_law_584 : decode cL_law 584 = .ok (.iload_n 3, 1) := dL_law_578_b.2.2.2.2.1
theorem dL_law_585 : decode cL_law 585 = .ok (.iconst 1, 1) := dL_law_578_b.2.2.2.2.2.1
theorem dL_law_586 : decode cL_law 586 = .ok (.iadd, 1) := dL_law_578_b.2.2.2.2.2.2.1
theorem dL_law_587 : decode cL_law 587 = .ok (.iaload, 1) := dL_law_578_b.2.2.2.2.2.2.2
theorem dL_law_588_b : (decode cL_law 588 = .ok (.aload_n 0, 1)) ∧ (decode cL_law 589 = .ok (.iload_n 3, 1)) ∧ (decode cL_law 590 = .ok (.iconst 2, 1)) ∧ (decode cL_law 591 = .ok (.iadd, 1)) ∧ (decode cL_law 592 = .ok (.iaload, 1)) ∧ (decode cL_law 593 = .ok (.aload_n 0, 1)) ∧ (decode cL_law 594 = .ok (.iload_n 3, 1)) ∧ (decode cL_law 595 = .ok (.iconst 3, 1)) := by decide +kernel
theorem dL_law_588 : decode cL_law 588 = .ok (.aload_n 0, 1) := dL_law_588_b.1
theorem dL_law_589 : decode cL_law 589 = .ok (.iload_n 3, 1) := dL_law_588_b.2.1
theorem dL_law_590 : decode cL_law 590 = .ok (.iconst 2, 1) := dL_law_588_b.2.2.1
theorem dL_law_591 : decode cL_law 591 = .ok (.iadd, 1) := dL_law_588_b.2.2.2.1
theorem dL_law_592 : decode cL_law 592 = .ok (.iaload, 1) := dL_law_588_b.2.2.2.2.1
theorem dL_law_593 : decode cL_law 593 = .ok (.aload_n 0, 1) := dL_law_588_b.2.2.2.2.2.1
theorem dL_law_594 : decode cL_law 594 = .ok (.iload_n 3, 1) := dL_law_588_b.2.2.2.2.2.2.1
theorem dL_law_595 : decode cL_law 595 = .ok (.iconst 3, 1) := dL_law_588_b.2.2.2.2.2.2.2
theorem dL_law_596_b : (decode cL_law 596 = .ok (.iadd, 1)) ∧ (decode cL_law 597 = .ok (.iaload, 1)) ∧ (decode cL_law 598 = .ok (.aload_n 0, 1)) ∧ (decode cL_law 599 = .ok (.iload_n 3, 1)) ∧ (decode cL_law 600 = .ok (.iconst 4, 1)) ∧ (decode cL_law 601 = .ok (.iadd, 1)) ∧ (decode cL_law 602 = .ok (.iaload, 1)) ∧ (decode cL_law 603 = .ok (.invokevirtual 58, 3)) := by decide +kernel
theorem dL_law_596 : decode cL_law 596 = .ok (.iadd, 1) := dL_law_596_b.1
theorem dL_law_597 : decode cL_law 597 = .ok (.iaload, 1) := dL_law_596_b.2.1
theorem dL_law_598 : decode cL_law 598 = .ok (.aload_n 0, 1) := dL_law_596_b.2.2.1
theorem dL_law_599 : decode cL_law 599 = .ok (.iload_n 3, 1) := dL_law_596_b.2.2.2.1
theorem dL_law_600 : decode cL_law 600 = .ok (.iconst 4, 1) := dL_law_596_b.2.2.2.2.1
theorem dL_law_601 : decode cL_law 601 = .ok (.iadd, 1) := dL_law_596_b.2.2.2.2.2.1
theorem dL_law_602 : decode cL_law 602 = .ok (.iaload, 1) := dL_law_596_b.2.2.2.2.2.2.1
theorem dL_law_603 : decode cL_law 603 = .ok (.invokevirtual 58, 3) := dL_law_596_b.2.2.2.2.2.2.2
theorem dL_law_606_b : (decode cL_law 606 = .ok (.pop, 1)) ∧ (decode cL_law 607 = .ok (.goto 816, 3)) ∧ (decode cL_law 610 = .ok (.aload_n 1, 1)) ∧ (decode cL_law 611 = .ok (.aload_n 0, 1)) ∧ (decode cL_law 612 = .ok (.iload_n 3, 1)) ∧ (decode cL_law 613 = .ok (.iconst 1, 1)) ∧ (decode cL_law 614 = .ok (.iadd, 1)) ∧ (decode cL_law 615 = .ok (.iaload, 1)) := by decide +kernel
theorem dL_law_606 : decode cL_law 606 = .ok (.pop, 1) := dL_law_606_b.1
theorem dL_law_607 : decode cL_law 607 = .ok (.goto 816, 3) := dL_law_606_b.2.1
theorem dL_law_610 : decode cL_law 610 = .ok (.aload_n 1, 1) := dL_law_606_b.2.2.1
theorem dL_law_611 : decode cL_law 611 = .ok (.aload_n 0, 1) := dL_law_606_b.2.2.2.1
theorem dL_law_612 : decode cL_law 612 = .ok (.iload_n 3, 1) := dL_law_606_b.2.2.2.2.1
theorem dL_law_613 : decode cL_law 613 = .ok (.iconst 1, 1) := dL_law_606_b.2.2.2.2.2.1
theorem dL_law_614 : decode cL_law 614 = .ok (.iadd, 1) := dL_law_606_b.2.2.2.2.2.2.1
theorem dL_law_615 : decode cL_law 615 = .ok (.iaload, 1) := dL_law_606_b.2.2.2.2.2.2.2
theorem dL_law_616_b : (decode cL_law 616 = .ok (.aload_n 0, 1)) ∧ (decode cL_law 617 = .ok (.iload_n 3, 1)) ∧ (decode cL_law 618 = .ok (.iconst 2, 1)) ∧ (decode cL_law 619 = .ok (.iadd, 1)) ∧ (decode cL_law 620 = .ok (.iaload, 1)) ∧ (decode cL_law 621 = .ok (.ifCond .eq 7, 3)) ∧ (decode cL_law 624 = .ok (.iconst 1, 1)) ∧ (decode cL_law 625 = .ok (.goto 4, 3)) := by decide +kernel
theorem dL_law_616 : decode cL_law 616 = .ok (.aload_n 0, 1) := dL_law_616_b.1
theorem dL_law_617 : decode cL_law 617 = .ok (.iload_n 3, 1) := dL_law_616_b.2.1
theorem dL_law_618 : decode cL_law 618 = .ok (.iconst 2, 1) := dL_law_616_b.2.2.1
theorem dL_law_619 : decode cL_law 619 = .ok (.iadd, 1) := dL_law_616_b.2.2.2.1
theorem dL_law_620 : decode cL_law 620 = .ok (.iaload, 1) := dL_law_616_b.2.2.2.2.1
theorem dL_law_621 : decode cL_law 621 = .ok (.ifCond .eq 7, 3) := dL_law_616_b.2.2.2.2.2.1
theorem dL_law_624 : decode cL_law 624 = .ok (.iconst 1, 1) := dL_law_616_b.2.2.2.2.2.2.1
theorem dL_law_625 : decode cL_law 625 = .ok (.goto 4, 3) := dL_law_616_b.2.2.2.2.2.2.2
theorem dL_law_628_b : (decode cL_law 628 = .ok (.iconst 0, 1)) ∧ (decode cL_law 629 = .ok (.invokevirtual 59, 3)) ∧ (decode cL_law 632 = .ok (.pop, 1)) ∧ (decode cL_law 633 = .ok (.aload_n 2, 1)) ∧ (decode cL_law 634 = .ok (.aload_n 0, 1)) ∧ (decode cL_law 635 = .ok (.iload_n 3, 1)) ∧ (decode cL_law 636 = .ok (.iconst 1, 1)) ∧ (decode cL_law 637 = .ok (.iadd, 1)) := by decide +kernel
theorem dL_law_628 : decode cL_law 628 = .ok (.iconst 0, 1) := dL_law_628_b.1
theorem dL_law_629 : decode cL_law 629 = .ok (.invokevirtual 59, 3) := dL_law_628_b.2.1
theorem dL_law_632 : decode cL_law 632 = .ok (.pop, 1) := dL_law_628_b.2.2.1
theorem dL_law_633 : decode cL_law 633 = .ok (.aload_n 2, 1) := dL_law_628_b.2.2.2.1
theorem dL_law_634 : decode cL_law 634 = .ok (.aload_n 0, 1) := dL_law_628_b.2.2.2.2.1
theorem dL_law_635 : decode cL_law 635 = .ok (.iload_n 3, 1) := dL_law_628_b.2.2.2.2.2.1
theorem dL_law_636 : decode cL_law 636 = .ok (.iconst 1, 1) := dL_law_628_b.2.2.2.2.2.2.1
theorem dL_law_637 : decode cL_law 637 = .ok (.iadd, 1) := dL_law_628_b.2.2.2.2.2.2.2
theorem dL_law_638_b : (decode cL_law 638 = .ok (.iaload, 1)) ∧ (decode cL_law 639 = .ok (.aload_n 0, 1)) ∧ (decode cL_law 640 = .ok (.iload_n 3, 1)) ∧ (decode cL_law 641 = .ok (.iconst 2, 1)) ∧ (decode cL_law 642 = .ok (.iadd, 1)) ∧ (decode cL_law 643 = .ok (.iaload, 1)) ∧ (decode cL_law 644 = .ok (.ifCond .eq 7, 3)) ∧ (decode cL_law 647 = .ok (.iconst 1, 1)) := by decide +kernel
theorem dL_law_638 : decode cL_law 638 = .ok (.iaload, 1) := dL_law_638_b.1
theorem dL_law_639 : decode cL_law 639 = .ok (.aload_n 0, 1) := dL_law_638_b.2.1
theorem dL_law_640 : decode cL_law 640 = .ok (.iload_n 3, 1) := dL_law_638_b.2.2.1
theorem dL_law_641 : decode cL_law 641 = .ok (.iconst 2, 1) := dL_law_638_b.2.2.2.1
theorem dL_law_642 : decode cL_law 642 = .ok (.iadd, 1) := dL_law_638_b.2.2.2.2.1
theorem dL_law_643 : decode cL_law 643 = .ok (.iaload, 1) := dL_law_638_b.2.2.2.2.2.1
theorem dL_law_644 : decode cL_law 644 = .ok (.ifCond .eq 7, 3) := dL_law_638_b.2.2.2.2.2.2.1
theorem dL_law_647 : decode cL_law 647 = .ok (.iconst 1, 1) := dL_law_638_b.2.2.2.2.2.2.2
theorem dL_law_648_b : (decode cL_law 648 = .ok (.goto 4, 3)) ∧ (decode cL_law 651 = .ok (.iconst 0, 1)) ∧ (decode cL_law 652 = .ok (.invokevirtual 63, 3)) ∧ (decode cL_law 655 = .ok (.pop, 1)) ∧ (decode cL_law 656 = .ok (.goto 767, 3)) ∧ (decode cL_law 659 = .ok (.aload_n 1, 1)) ∧ (decode cL_law 660 = .ok (.aload_n 0, 1)) ∧ (decode cL_law 661 = .ok (.iload_n 3, 1)) := by decide +kernel
theorem dL_law_648 : decode cL_law 648 = .ok (.goto 4, 3) := dL_law_648_b.1
theorem dL_law_651 : decode cL_law 651 = .ok (.iconst 0, 1) := dL_law_648_b.2.1
theorem dL_law_652 : decode cL_law 652 = .ok (.invokevirtual 63, 3) := dL_law_648_b.2.2.1
theorem dL_law_655 : decode cL_law 655 = .ok (.pop, 1) := dL_law_648_b.2.2.2.1
theorem dL_law_656 : decode cL_law 656 = .ok (.goto 767, 3) := dL_law_648_b.2.2.2.2.1
theorem dL_law_659 : decode cL_law 659 = .ok (.aload_n 1, 1) := dL_law_648_b.2.2.2.2.2.1
theorem dL_law_660 : decode cL_law 660 = .ok (.aload_n 0, 1) := dL_law_648_b.2.2.2.2.2.2.1
theorem dL_law_661 : decode cL_law 661 = .ok (.iload_n 3, 1) := dL_law_648_b.2.2.2.2.2.2.2
theorem dL_law_662_b : (decode cL_law 662 = .ok (.iconst 1, 1)) ∧ (decode cL_law 663 = .ok (.iadd, 1)) ∧ (decode cL_law 664 = .ok (.iaload, 1)) ∧ (decode cL_law 665 = .ok (.invokevirtual 64, 3)) ∧ (decode cL_law 668 = .ok (.pop, 1)) ∧ (decode cL_law 669 = .ok (.aload_n 2, 1)) ∧ (decode cL_law 670 = .ok (.aload_n 0, 1)) ∧ (decode cL_law 671 = .ok (.iload_n 3, 1)) := by decide +kernel
theorem dL_law_662 : decode cL_law 662 = .ok (.iconst 1, 1) := dL_law_662_b.1
theorem dL_law_663 : decode cL_law 663 = .ok (.iadd, 1) := dL_law_662_b.2.1
theorem dL_law_664 : decode cL_law 664 = .ok (.iaload, 1) := dL_law_662_b.2.2.1
theorem dL_law_665 : decode cL_law 665 = .ok (.invokevirtual 64, 3) := dL_law_662_b.2.2.2.1
theorem dL_law_668 : decode cL_law 668 = .ok (.pop, 1) := dL_law_662_b.2.2.2.2.1
theorem dL_law_669 : decode cL_law 669 = .ok (.aload_n 2, 1) := dL_law_662_b.2.2.2.2.2.1
theorem dL_law_670 : decode cL_law 670 = .ok (.aload_n 0, 1) := dL_law_662_b.2.2.2.2.2.2.1
theorem dL_law_671 : decode cL_law 671 = .ok (.iload_n 3, 1) := dL_law_662_b.2.2.2.2.2.2.2
theorem dL_law_672_b : (decode cL_law 672 = .ok (.iconst 1, 1)) ∧ (decode cL_law 673 = .ok (.iadd, 1)) ∧ (decode cL_law 674 = .ok (.iaload, 1)) ∧ (decode cL_law 675 = .ok (.invokevirtual 67, 3)) ∧ (decode cL_law 678 = .ok (.pop, 1)) ∧ (decode cL_law 679 = .ok (.goto 744, 3)) ∧ (decode cL_law 682 = .ok (.aload_n 1, 1)) ∧ (decode cL_law 683 = .ok (.invokevirtual 68, 3)) := by decide +kernel
theorem dL_law_672 : decode cL_law 672 = .ok (.iconst 1, 1) := dL_law_672_b.1
theorem dL_law_673 : decode cL_law 673 = .ok (.iadd, 1) := dL_law_672_b.2.1
theorem dL_law_674 : decode cL_law 674 = .ok (.iaload, 1) := dL_law_672_b.2.2.1
theorem dL_law_675 : decode cL_law 675 = .ok (.invokevirtual 67, 3) := dL_law_672_b.2.2.2.1
theorem dL_law_678 : decode cL_law 678 = .ok (.pop, 1) := dL_law_672_b.2.2.2.2.1
theorem dL_law_679 : decode cL_law 679 = .ok (.goto 744, 3) := dL_law_672_b.2.2.2.2.2.1
theorem dL_law_682 : decode cL_law 682 = .ok (.aload_n 1, 1) := dL_law_672_b.2.2.2.2.2.2.1
theorem dL_law_683 : decode cL_law 683 = .ok (.invokevirtual 68, 3) := dL_law_672_b.2.2.2.2.2.2.2
theorem dL_law_686_b : (decode cL_law 686 = .ok (.pop, 1)) ∧ (decode cL_law 687 = .ok (.aload_n 2, 1)) ∧ (decode cL_law 688 = .ok (.invokevirtual 71, 3)) ∧ (decode cL_law 691 = .ok (.pop, 1)) ∧ (decode cL_law 692 = .ok (.goto 731, 3)) ∧ (decode cL_law 695 = .ok (.aload_n 1, 1)) ∧ (decode cL_law 696 = .ok (.aload_n 0, 1)) ∧ (decode cL_law 697 = .ok (.iload_n 3, 1)) := by decide +kernel
theorem dL_law_686 : decode cL_law 686 = .ok (.pop, 1) := dL_law_686_b.1
theorem dL_law_687 : decode cL_law 687 = .ok (.aload_n 2, 1) := dL_law_686_b.2.1
theorem dL_law_688 : decode cL_law 688 = .ok (.invokevirtual 71, 3) := dL_law_686_b.2.2.1
theorem dL_law_691 : decode cL_law 691 = .ok (.pop, 1) := dL_law_686_b.2.2.2.1
theorem dL_law_692 : decode cL_law 692 = .ok (.goto 731, 3) := dL_law_686_b.2.2.2.2.1
theorem dL_law_695 : decode cL_law 695 = .ok (.aload_n 1, 1) := dL_law_686_b.2.2.2.2.2.1
theorem dL_law_696 : decode cL_law 696 = .ok (.aload_n 0, 1) := dL_law_686_b.2.2.2.2.2.2.1
theorem dL_law_697 : decode cL_law 697 = .ok (.iload_n 3, 1) := dL_law_686_b.2.2.2.2.2.2.2
theorem dL_law_698_b : (decode cL_law 698 = .ok (.iconst 1, 1)) ∧ (decode cL_law 699 = .ok (.iadd, 1)) ∧ (decode cL_law 700 = .ok (.iaload, 1)) ∧ (decode cL_law 701 = .ok (.aload_n 0, 1)) ∧ (decode cL_law 702 = .ok (.iload_n 3, 1)) ∧ (decode cL_law 703 = .ok (.iconst 2, 1)) ∧ (decode cL_law 704 = .ok (.iadd, 1)) ∧ (decode cL_law 705 = .ok (.iaload, 1)) := by decide +kernel
theorem dL_law_698 : decode cL_law 698 = .ok (.iconst 1, 1) := dL_law_698_b.1
theorem dL_law_699 : decode cL_law 699 = .ok (.iadd, 1) := dL_law_698_b.2.1
theorem dL_law_700 : decode cL_law 700 = .ok (.iaload, 1) := dL_law_698_b.2.2.1
theorem dL_law_701 : decode cL_law 701 = .ok (.aload_n 0, 1) := dL_law_698_b.2.2.2.1
theorem dL_law_702 : decode cL_law 702 = .ok (.iload_n 3, 1) := dL_law_698_b.2.2.2.2.1
theorem dL_law_703 : decode cL_law 703 = .ok (.iconst 2, 1) := dL_law_698_b.2.2.2.2.2.1
theorem dL_law_704 : decode cL_law 704 = .ok (.iadd, 1) := dL_law_698_b.2.2.2.2.2.2.1
theorem dL_law_705 : decode cL_law 705 = .ok (.iaload, 1) := dL_law_698_b.2.2.2.2.2.2.2
theorem dL_law_706_b : (decode cL_law 706 = .ok (.aload_n 0, 1)) ∧ (decode cL_law 707 = .ok (.iload_n 3, 1)) ∧ (decode cL_law 708 = .ok (.iconst 3, 1)) ∧ (decode cL_law 709 = .ok (.iadd, 1)) ∧ (decode cL_law 710 = .ok (.iaload, 1)) ∧ (decode cL_law 711 = .ok (.aload_n 0, 1)) ∧ (decode cL_law 712 = .ok (.iload_n 3, 1)) ∧ (decode cL_law 713 = .ok (.iconst 4, 1)) := by decide +kernel
theorem dL_law_706 : decode cL_law 706 = .ok (.aload_n 0, 1) := dL_law_706_b.1
theorem dL_law_707 : decode cL_law 707 = .ok (.iload_n 3, 1) := dL_law_706_b.2.1
theorem dL_law_708 : decode cL_law 708 = .ok (.iconst 3, 1) := dL_law_706_b.2.2.1
theorem dL_law_709 : decode cL_law 709 = .ok (.iadd, 1) := dL_law_706_b.2.2.2.1
theorem dL_law_710 : decode cL_law 710 = .ok (.iaload, 1) := dL_law_706_b.2.2.2.2.1
theorem dL_law_711 : decode cL_law 711 = .ok (.aload_n 0, 1) := dL_law_706_b.2.2.2.2.2.1
theorem dL_law_712 : decode cL_law 712 = .ok (.iload_n 3, 1) := dL_law_706_b.2.2.2.2.2.2.1
theorem dL_law_713 : decode cL_law 713 = .ok (.iconst 4, 1) := dL_law_706_b.2.2.2.2.2.2.2
theorem dL_law_714_b : (decode cL_law 714 = .ok (.iadd, 1)) ∧ (decode cL_law 715 = .ok (.iaload, 1)) ∧ (decode cL_law 716 = .ok (.aload_n 0, 1)) ∧ (decode cL_law 717 = .ok (.iload_n 3, 1)) ∧ (decode cL_law 718 = .ok (.iconst 5, 1)) ∧ (decode cL_law 719 = .ok (.iadd, 1)) ∧ (decode cL_law 720 = .ok (.iaload, 1)) ∧ (decode cL_law 721 = .ok (.invokevirtual 72, 3)) := by decide +kernel
theorem dL_law_714 : decode cL_law 714 = .ok (.iadd, 1) := dL_law_714_b.1
theorem dL_law_715 : decode cL_law 715 = .ok (.iaload, 1) := dL_law_714_b.2.1
theorem dL_law_716 : decode cL_law 716 = .ok (.aload_n 0, 1) := dL_law_714_b.2.2.1
theorem dL_law_717 : decode cL_law 717 = .ok (.iload_n 3, 1) := dL_law_714_b.2.2.2.1
theorem dL_law_718 : decode cL_law 718 = .ok (.iconst 5, 1) := dL_law_714_b.2.2.2.2.1
theorem dL_law_719 : decode cL_law 719 = .ok (.iadd, 1) := dL_law_714_b.2.2.2.2.2.1
theorem dL_law_720 : decode cL_law 720 = .ok (.iaload, 1) := dL_law_714_b.2.2.2.2.2.2.1
theorem dL_law_721 : decode cL_law 721 = .ok (.invokevirtual 72, 3) := dL_law_714_b.2.2.2.2.2.2.2
theorem dL_law_724_b : (decode cL_law 724 = .ok (.pop, 1)) ∧ (decode cL_law 725 = .ok (.aload_n 2, 1)) ∧ (decode cL_law 726 = .ok (.aload_n 0, 1)) ∧ (decode cL_law 727 = .ok (.iload_n 3, 1)) ∧ (decode cL_law 728 = .ok (.iconst 1, 1)) ∧ (decode cL_law 729 = .ok (.iadd, 1)) ∧ (decode cL_law 730 = .ok (.iaload, 1)) ∧ (decode cL_law 731 = .ok (.aload_n 0, 1)) := by decide +kernel
theorem dL_law_724 : decode cL_law 724 = .ok (.pop, 1) := dL_law_724_b.1
theorem dL_law_725 : decode cL_law 725 = .ok (.aload_n 2, 1) := dL_law_724_b.2.1
theorem dL_law_726 : decode cL_law 726 = .ok (.aload_n 0, 1) := dL_law_724_b.2.2.1
theorem dL_law_727 : decode cL_law 727 = .ok (.iload_n 3, 1) := dL_law_724_b.2.2.2.1
theorem dL_law_728 : decode cL_law 728 = .ok (.iconst 1, 1) := dL_law_724_b.2.2.2.2.1
theorem dL_law_729 : decode cL_law 729 = .ok (.iadd, 1) := dL_law_724_b.2.2.2.2.2.1
theorem dL_law_730 : decode cL_law 730 = .ok (.iaload, 1) := dL_law_724_b.2.2.2.2.2.2.1
theorem dL_law_731 : decode cL_law 731 = .ok (.aload_n 0, 1) := dL_law_724_b.2.2.2.2.2.2.2
theorem dL_law_732_b : (decode cL_law 732 = .ok (.iload_n 3, 1)) ∧ (decode cL_law 733 = .ok (.iconst 2, 1)) ∧ (decode cL_law 734 = .ok (.iadd, 1)) ∧ (decode cL_law 735 = .ok (.iaload, 1)) ∧ (decode cL_law 736 = .ok (.aload_n 0, 1)) ∧ (decode cL_law 737 = .ok (.iload_n 3, 1)) ∧ (decode cL_law 738 = .ok (.iconst 3, 1)) ∧ (decode cL_law 739 = .ok (.iadd, 1)) := by decide +kernel
theorem dL_law_732 : decode cL_law 732 = .ok (.iload_n 3, 1) := dL_law_732_b.1
theorem dL_law_733 : decode cL_law 733 = .ok (.iconst 2, 1) := dL_law_732_b.2.1
theorem dL_law_734 : decode cL_law 734 = .ok (.iadd, 1) := dL_law_732_b.2.2.1
theorem dL_law_735 : decode cL_law 735 = .ok (.iaload, 1) := dL_law_732_b.2.2.2.1
theorem dL_law_736 : decode cL_law 736 = .ok (.aload_n 0, 1) := dL_law_732_b.2.2.2.2.1
theorem dL_law_737 : decode cL_law 737 = .ok (.iload_n 3, 1) := dL_law_732_b.2.2.2.2.2.1
theorem dL_law_738 : decode cL_law 738 = .ok (.iconst 3, 1) := dL_law_732_b.2.2.2.2.2.2.1
theorem dL_law_739 : decode cL_law 739 = .ok (.iadd, 1) := dL_law_732_b.2.2.2.2.2.2.2
theorem dL_law_740_b : (decode cL_law 740 = .ok (.iaload, 1)) ∧ (decode cL_law 741 = .ok (.aload_n 0, 1)) ∧ (decode cL_law 742 = .ok (.iload_n 3, 1)) ∧ (decode cL_law 743 = .ok (.iconst 4, 1)) ∧ (decode cL_law 744 = .ok (.iadd, 1)) ∧ (decode cL_law 745 = .ok (.iaload, 1)) ∧ (decode cL_law 746 = .ok (.aload_n 0, 1)) ∧ (decode cL_law 747 = .ok (.iload_n 3, 1)) := by decide +kernel
theorem dL_law_740 : decode cL_law 740 = .ok (.iaload, 1) := dL_law_740_b.1
theorem dL_law_741 : decode cL_law 741 = .ok (.aload_n 0, 1) := dL_law_740_b.2.1
theorem dL_law_742 : decode cL_law 742 = .ok (.iload_n 3, 1) := dL_law_740_b.2.2.1
theorem dL_law_743 : decode cL_law 743 = .ok (.iconst 4, 1) := dL_law_740_b.2.2.2.1
theorem dL_law_744 : decode cL_law 744 = .ok (.iadd, 1) := dL_law_740_b.2.2.2.2.1
theorem dL_law_745 : decode cL_law 745 = .ok (.iaload, 1) := dL_law_740_b.2.2.2.2.2.1
theorem dL_law_746 : decode cL_law 746 = .ok (.aload_n 0, 1) := dL_law_740_b.2.2.2.2.2.2.1
theorem dL_law_747 : decode cL_law 747 = .ok (.iload_n 3, 1) := dL_law_740_b.2.2.2.2.2.2.2
theorem dL_law_748_b : (decode cL_law 748 = .ok (.iconst 5, 1)) ∧ (decode cL_law 749 = .ok (.iadd, 1)) ∧ (decode cL_law 750 = .ok (.iaload, 1)) ∧ (decode cL_law 751 = .ok (.invokevirtual 76, 3)) ∧ (decode cL_law 754 = .ok (.pop, 1)) ∧ (decode cL_law 755 = .ok (.goto 668, 3)) ∧ (decode cL_law 758 = .ok (.aload_n 1, 1)) ∧ (decode cL_law 759 = .ok (.aload_n 0, 1)) := by decide +kernel
theorem dL_law_748 : decode cL_law 748 = .ok (.iconst 5, 1) := dL_law_748_b.1
theorem dL_law_749 : decode cL_law 749 = .ok (.iadd, 1) := dL_law_748_b.2.1
theorem dL_law_750 : decode cL_law 750 = .ok (.iaload, 1) := dL_law_748_b.2.2.1
theorem dL_law_751 : decode cL_law 751 = .ok (.invokevirtual 76, 3) := dL_law_748_b.2.2.2.1
theorem dL_law_754 : decode cL_law 754 = .ok (.pop, 1) := dL_law_748_b.2.2.2.2.1
theorem dL_law_755 : decode cL_law 755 = .ok (.goto 668, 3) := dL_law_748_b.2.2.2.2.2.1
theorem dL_law_758 : decode cL_law 758 = .ok (.aload_n 1, 1) := dL_law_748_b.2.2.2.2.2.2.1
theorem dL_law_759 : decode cL_law 759 = .ok (.aload_n 0, 1) := dL_law_748_b.2.2.2.2.2.2.2
theorem dL_law_760_b : (decode cL_law 760 = .ok (.iload_n 3, 1)) ∧ (decode cL_law 761 = .ok (.iconst 1, 1)) ∧ (decode cL_law 762 = .ok (.iadd, 1)) ∧ (decode cL_law 763 = .ok (.iaload, 1)) ∧ (decode cL_law 764 = .ok (.aload_n 0, 1)) ∧ (decode cL_law 765 = .ok (.iload_n 3, 1)) ∧ (decode cL_law 766 = .ok (.iconst 2, 1)) ∧ (decode cL_law 767 = .ok (.iadd, 1)) := by decide +kernel
theorem dL_law_760 : decode cL_law 760 = .ok (.iload_n 3, 1) := dL_law_760_b.1
theorem dL_law_761 : decode cL_law 761 = .ok (.iconst 1, 1) := dL_law_760_b.2.1
theorem dL_law_762 : decode cL_law 762 = .ok (.iadd, 1) := dL_law_760_b.2.2.1
theorem dL_law_763 : decode cL_law 763 = .ok (.iaload, 1) := dL_law_760_b.2.2.2.1
theorem dL_law_764 : decode cL_law 764 = .ok (.aload_n 0, 1) := dL_law_760_b.2.2.2.2.1
theorem dL_law_765 : decode cL_law 765 = .ok (.iload_n 3, 1) := dL_law_760_b.2.2.2.2.2.1
theorem dL_law_766 : decode cL_law 766 = .ok (.iconst 2, 1) := dL_law_760_b.2.2.2.2.2.2.1
theorem dL_law_767 : decode cL_law 767 = .ok (.iadd, 1) := dL_law_760_b.2.2.2.2.2.2.2
theorem dL_law_768_b : (decode cL_law 768 = .ok (.iaload, 1)) ∧ (decode cL_law 769 = .ok (.invokevirtual 77, 3)) ∧ (decode cL_law 772 = .ok (.pop2, 1)) ∧ (decode cL_law 773 = .ok (.aload_n 2, 1)) ∧ (decode cL_law 774 = .ok (.aload_n 0, 1)) ∧ (decode cL_law 775 = .ok (.iload_n 3, 1)) ∧ (decode cL_law 776 = .ok (.iconst 1, 1)) ∧ (decode cL_law 777 = .ok (.iadd, 1)) := by decide +kernel
theorem dL_law_768 : decode cL_law 768 = .ok (.iaload, 1) := dL_law_768_b.1
theorem dL_law_769 : decode cL_law 769 = .ok (.invokevirtual 77, 3) := dL_law_768_b.2.1
theorem dL_law_772 : decode cL_law 772 = .ok (.pop2, 1) := dL_law_768_b.2.2.1
theorem dL_law_773 : decode cL_law 773 = .ok (.aload_n 2, 1) := dL_law_768_b.2.2.2.1
theorem dL_law_774 : decode cL_law 774 = .ok (.aload_n 0, 1) := dL_law_768_b.2.2.2.2.1
theorem dL_law_775 : decode cL_law 775 = .ok (.iload_n 3, 1) := dL_law_768_b.2.2.2.2.2.1
theorem dL_law_776 : decode cL_law 776 = .ok (.iconst 1, 1) := dL_law_768_b.2.2.2.2.2.2.1
theorem dL_law_777 : decode cL_law 777 = .ok (.iadd, 1) := dL_law_768_b.2.2.2.2.2.2.2
theorem dL_law_778_b : (decode cL_law 778 = .ok (.iaload, 1)) ∧ (decode cL_law 779 = .ok (.aload_n 0, 1)) ∧ (decode cL_law 780 = .ok (.iload_n 3, 1)) ∧ (decode cL_law 781 = .ok (.iconst 2, 1)) ∧ (decode cL_law 782 = .ok (.iadd, 1)) ∧ (decode cL_law 783 = .ok (.iaload, 1)) ∧ (decode cL_law 784 = .ok (.invokevirtual 81, 3)) ∧ (decode cL_law 787 = .ok (.pop2, 1)) := by decide +kernel
theorem dL_law_778 : decode cL_law 778 = .ok (.iaload, 1) := dL_law_778_b.1
theorem dL_law_779 : decode cL_law 779 = .ok (.aload_n 0, 1) := dL_law_778_b.2.1
theorem dL_law_780 : decode cL_law 780 = .ok (.iload_n 3, 1) := dL_law_778_b.2.2.1
theorem dL_law_781 : decode cL_law 781 = .ok (.iconst 2, 1) := dL_law_778_b.2.2.2.1
theorem dL_law_782 : decode cL_law 782 = .ok (.iadd, 1) := dL_law_778_b.2.2.2.2.1
theorem dL_law_783 : decode cL_law 783 = .ok (.iaload, 1) := dL_law_778_b.2.2.2.2.2.1
theorem dL_law_784 : decode cL_law 784 = .ok (.invokevirtual 81, 3) := dL_law_778_b.2.2.2.2.2.2.1
theorem dL_law_787 : decode cL_law 787 = .ok (.pop2, 1) := dL_law_778_b.2.2.2.2.2.2.2
theorem dL_law_788_b : (decode cL_law 788 = .ok (.goto 635, 3)) ∧ (decode cL_law 791 = .ok (.aload_n 1, 1)) ∧ (decode cL_law 792 = .ok (.aload_n 0, 1)) ∧ (decode cL_law 793 = .ok (.iload_n 3, 1)) ∧ (decode cL_law 794 = .ok (.iconst 1, 1)) ∧ (decode cL_law 795 = .ok (.iadd, 1)) ∧ (decode cL_law 796 = .ok (.iaload, 1)) ∧ (decode cL_law 797 = .ok (.invokevirtual 82, 3)) := by decide +kernel
theorem dL_law_788 : decode cL_law 788 = .ok (.goto 635, 3) := dL_law_788_b.1
theorem dL_law_791 : decode cL_law 791 = .ok (.aload_n 1, 1) := dL_law_788_b.2.1
theorem dL_law_792 : decode cL_law 792 = .ok (.aload_n 0, 1) := dL_law_788_b.2.2.1
theorem dL_law_793 : decode cL_law 793 = .ok (.iload_n 3, 1) := dL_law_788_b.2.2.2.1
theorem dL_law_794 : decode cL_law 794 = .ok (.iconst 1, 1) := dL_law_788_b.2.2.2.2.1
theorem dL_law_795 : decode cL_law 795 = .ok (.iadd, 1) := dL_law_788_b.2.2.2.2.2.1
theorem dL_law_796 : decode cL_law 796 = .ok (.iaload, 1) := dL_law_788_b.2.2.2.2.2.2.1
theorem dL_law_797 : decode cL_law 797 = .ok (.invokevirtual 82, 3) := dL_law_788_b.2.2.2.2.2.2.2
theorem dL_law_800_b : (decode cL_law 800 = .ok (.pop, 1)) ∧ (decode cL_law 801 = .ok (.aload_n 2, 1)) ∧ (decode cL_law 802 = .ok (.aload_n 0, 1)) ∧ (decode cL_law 803 = .ok (.iload_n 3, 1)) ∧ (decode cL_law 804 = .ok (.iconst 1, 1)) ∧ (decode cL_law 805 = .ok (.iadd, 1)) ∧ (decode cL_law 806 = .ok (.iaload, 1)) ∧ (decode cL_law 807 = .ok (.invokevirtual 85, 3)) := by decide +kernel
theorem dL_law_800 : decode cL_law 800 = .ok (.pop, 1) := dL_law_800_b.1
theorem dL_law_801 : decode cL_law 801 = .ok (.aload_n 2, 1) := dL_law_800_b.2.1
theorem dL_law_802 : decode cL_law 802 = .ok (.aload_n 0, 1) := dL_law_800_b.2.2.1
theorem dL_law_803 : decode cL_law 803 = .ok (.iload_n 3, 1) := dL_law_800_b.2.2.2.1
theorem dL_law_804 : decode cL_law 804 = .ok (.iconst 1, 1) := dL_law_800_b.2.2.2.2.1
theorem dL_law_805 : decode cL_law 805 = .ok (.iadd, 1) := dL_law_800_b.2.2.2.2.2.1
theorem dL_law_806 : decode cL_law 806 = .ok (.iaload, 1) := dL_law_800_b.2.2.2.2.2.2.1
theorem dL_law_807 : decode cL_law 807 = .ok (.invokevirtual 85, 3) := dL_law_800_b.2.2.2.2.2.2.2
theorem dL_law_810_b : (decode cL_law 810 = .ok (.pop, 1)) ∧ (decode cL_law 811 = .ok (.goto 612, 3)) ∧ (decode cL_law 814 = .ok (.aload_n 1, 1)) ∧ (decode cL_law 815 = .ok (.aload_n 0, 1)) ∧ (decode cL_law 816 = .ok (.iload_n 3, 1)) ∧ (decode cL_law 817 = .ok (.iconst 1, 1)) ∧ (decode cL_law 818 = .ok (.iadd, 1)) ∧ (decode cL_law 819 = .ok (.iaload, 1)) := by decide +kernel
theorem dL_law_810 : decode cL_law 810 = .ok (.pop, 1) := dL_law_810_b.1
theorem dL_law_811 : decode cL_law 811 = .ok (.goto 612, 3) := dL_law_810_b.2.1
theorem dL_law_814 : decode cL_law 814 = .ok (.aload_n 1, 1) := dL_law_810_b.2.2.1
theorem dL_law_815 : decode cL_law 815 = .ok (.aload_n 0, 1) := dL_law_810_b.2.2.2.1
theorem dL_law_816 : decode cL_law 816 = .ok (.iload_n 3, 1) := dL_law_810_b.2.2.2.2.1
theorem dL_law_817 : decode cL_law 817 = .ok (.iconst 1, 1) := dL_law_810_b.2.2.2.2.2.1
theorem dL_law_818 : decode cL_law 818 = .ok (.iadd, 1) := dL_law_810_b.2.2.2.2.2.2.1
theorem dL_law_819 : decode cL_law 819 = .ok (.iaload, 1) := dL_law_810_b.2.2.2.2.2.2.2
theorem dL_law_820_b : (decode cL_law 820 = .ok (.invokevirtual 86, 3)) ∧ (decode cL_law 823 = .ok (.pop, 1)) ∧ (decode cL_law 824 = .ok (.aload_n 2, 1)) ∧ (decode cL_law 825 = .ok (.aload_n 0, 1)) ∧ (decode cL_law 826 = .ok (.iload_n 3, 1)) ∧ (decode cL_law 827 = .ok (.iconst 1, 1)) ∧ (decode cL_law 828 = .ok (.iadd, 1)) ∧ (decode cL_law 829 = .ok (.iaload, 1)) := by decide +kernel
theorem dL_law_820 : decode cL_law 820 = .ok (.invokevirtual 86, 3) := dL_law_820_b.1
theorem dL_law_823 : decode cL_law 823 = .ok (.pop, 1) := dL_law_820_b.2.1
theorem dL_law_824 : decode cL_law 824 = .ok (.aload_n 2, 1) := dL_law_820_b.2.2.1
theorem dL_law_825 : decode cL_law 825 = .ok (.aload_n 0, 1) := dL_law_820_b.2.2.2.1
theorem dL_law_826 : decode cL_law 826 = .ok (.iload_n 3, 1) := dL_law_820_b.2.2.2.2.1
theorem dL_law_827 : decode cL_law 827 = .ok (.iconst 1, 1) := dL_law_820_b.2.2.2.2.2.1
theorem dL_law_828 : decode cL_law 828 = .ok (.iadd, 1) := dL_law_820_b.2.2.2.2.2.2.1
theorem dL_law_829 : decode cL_law 829 = .ok (.iaload, 1) := dL_law_820_b.2.2.2.2.2.2.2
theorem dL_law_830_b : (decode cL_law 830 = .ok (.invokevirtual 89, 3)) ∧ (decode cL_law 833 = .ok (.pop, 1)) ∧ (decode cL_law 834 = .ok (.goto 589, 3)) ∧ (decode cL_law 837 = .ok (.aload_n 1, 1)) ∧ (decode cL_law 838 = .ok (.aload_n 0, 1)) ∧ (decode cL_law 839 = .ok (.iload_n 3, 1)) ∧ (decode cL_law 840 = .ok (.iconst 1, 1)) ∧ (decode cL_law 841 = .ok (.iadd, 1)) := by decide +kernel
theorem dL_law_830 : decode cL_law 830 = .ok (.invokevirtual 89, 3) := dL_law_830_b.1
theorem dL_law_833 : decode cL_law 833 = .ok (.pop, 1) := dL_law_830_b.2.1
theorem dL_law_834 : decode cL_law 834 = .ok (.goto 589, 3) := dL_law_830_b.2.2.1
theorem dL_law_837 : decode cL_law 837 = .ok (.aload_n 1, 1) := dL_law_830_b.2.2.2.1
theorem dL_law_838 : decode cL_law 838 = .ok (.aload_n 0, 1) := dL_law_830_b.2.2.2.2.1
theorem dL_law_839 : decode cL_law 839 = .ok (.iload_n 3, 1) := dL_law_830_b.2.2.2.2.2.1
theorem dL_law_840 : decode cL_law 840 = .ok (.iconst 1, 1) := dL_law_830_b.2.2.2.2.2.2.1
theorem dL_law_841 : decode cL_law 841 = .ok (.iadd, 1) := dL_law_830_b.2.2.2.2.2.2.2
theorem dL_law_842_b : (decode cL_law 842 = .ok (.iaload, 1)) ∧ (decode cL_law 843 = .ok (.aload_n 0, 1)) ∧ (decode cL_law 844 = .ok (.iload_n 3, 1)) ∧ (decode cL_law 845 = .ok (.iconst 2, 1)) ∧ (decode cL_law 846 = .ok (.iadd, 1)) ∧ (decode cL_law 847 = .ok (.iaload, 1)) ∧ (decode cL_law 848 = .ok (.invokevirtual 90, 3)) ∧ (decode cL_law 851 = .ok (.pop, 1)) := by decide +kernel
theorem dL_law_842 : decode cL_law 842 = .ok (.iaload, 1) := dL_law_842_b.1
theorem dL_law_843 : decode cL_law 843 = .ok (.aload_n 0, 1) := dL_law_842_b.2.1
theorem dL_law_844 : decode cL_law 844 = .ok (.iload_n 3, 1) := dL_law_842_b.2.2.1
theorem dL_law_845 : decode cL_law 845 = .ok (.iconst 2, 1) := dL_law_842_b.2.2.2.1
theorem dL_law_846 : decode cL_law 846 = .ok (.iadd, 1) := dL_law_842_b.2.2.2.2.1
theorem dL_law_847 : decode cL_law 847 = .ok (.iaload, 1) := dL_law_842_b.2.2.2.2.2.1
theorem dL_law_848 : decode cL_law 848 = .ok (.invokevirtual 90, 3) := dL_law_842_b.2.2.2.2.2.2.1
theorem dL_law_851 : decode cL_law 851 = .ok (.pop, 1) := dL_law_842_b.2.2.2.2.2.2.2
theorem dL_law_852_b : (decode cL_law 852 = .ok (.aload_n 2, 1)) ∧ (decode cL_law 853 = .ok (.aload_n 0, 1)) ∧ (decode cL_law 854 = .ok (.iload_n 3, 1)) ∧ (decode cL_law 855 = .ok (.iconst 1, 1)) ∧ (decode cL_law 856 = .ok (.iadd, 1)) ∧ (decode cL_law 857 = .ok (.iaload, 1)) ∧ (decode cL_law 858 = .ok (.aload_n 0, 1)) ∧ (decode cL_law 859 = .ok (.iload_n 3, 1)) := by decide +kernel
theorem dL_law_852 : decode cL_law 852 = .ok (.aload_n 2, 1) := dL_law_852_b.1
theorem dL_law_853 : decode cL_law 853 = .ok (.aload_n 0, 1) := dL_law_852_b.2.1
theorem dL_law_854 : decode cL_law 854 = .ok (.iload_n 3, 1) := dL_law_852_b.2.2.1
theorem dL_law_855 : decode cL_law 855 = .ok (.iconst 1, 1) := dL_law_852_b.2.2.2.1
theorem dL_law_856 : decode cL_law 856 = .ok (.iadd, 1) := dL_law_852_b.2.2.2.2.1
theorem dL_law_857 : decode cL_law 857 = .ok (.iaload, 1) := dL_law_852_b.2.2.2.2.2.1
theorem dL_law_858 : decode cL_law 858 = .ok (.aload_n 0, 1) := dL_law_852_b.2.2.2.2.2.2.1
theorem dL_law_859 : decode cL_law 859 = .ok (.iload_n 3, 1) := dL_law_852_b.2.2.2.2.2.2.2
theorem dL_law_860_b : (decode cL_law 860 = .ok (.iconst 2, 1)) ∧ (decode cL_law 861 = .ok (.iadd, 1)) ∧ (decode cL_law 862 = .ok (.iaload, 1)) ∧ (decode cL_law 863 = .ok (.invokevirtual 94, 3)) ∧ (decode cL_law 866 = .ok (.pop, 1)) ∧ (decode cL_law 867 = .ok (.goto 556, 3)) ∧ (decode cL_law 870 = .ok (.aload_n 1, 1)) ∧ (decode cL_law 871 = .ok (.aload_n 0, 1)) := by decide +kernel
theorem dL_law_860 : decode cL_law 860 = .ok (.iconst 2, 1) := dL_law_860_b.1
theorem dL_law_861 : decode cL_law 861 = .ok (.iadd, 1) := dL_law_860_b.2.1
theorem dL_law_862 : decode cL_law 862 = .ok (.iaload, 1) := dL_law_860_b.2.2.1
theorem dL_law_863 : decode cL_law 863 = .ok (.invokevirtual 94, 3) := dL_law_860_b.2.2.2.1
theorem dL_law_866 : decode cL_law 866 = .ok (.pop, 1) := dL_law_860_b.2.2.2.2.1
theorem dL_law_867 : decode cL_law 867 = .ok (.goto 556, 3) := dL_law_860_b.2.2.2.2.2.1
theorem dL_law_870 : decode cL_law 870 = .ok (.aload_n 1, 1) := dL_law_860_b.2.2.2.2.2.2.1
theorem dL_law_871 : decode cL_law 871 = .ok (.aload_n 0, 1) := dL_law_860_b.2.2.2.2.2.2.2
theorem dL_law_872_b : (decode cL_law 872 = .ok (.iload_n 3, 1)) ∧ (decode cL_law 873 = .ok (.iconst 1, 1)) ∧ (decode cL_law 874 = .ok (.iadd, 1)) ∧ (decode cL_law 875 = .ok (.iaload, 1)) ∧ (decode cL_law 876 = .ok (.aload_n 0, 1)) ∧ (decode cL_law 877 = .ok (.iload_n 3, 1)) ∧ (decode cL_law 878 = .ok (.iconst 2, 1)) ∧ (decode cL_law 879 = .ok (.iadd, 1)) := by decide +kernel
theorem dL_law_872 : decode cL_law 872 = .ok (.iload_n 3, 1) := dL_law_872_b.1
theorem dL_law_873 : decode cL_law 873 = .ok (.iconst 1, 1) := dL_law_872_b.2.1
theorem dL_law_874 : decode cL_law 874 = .ok (.iadd, 1) := dL_law_872_b.2.2.1
theorem dL_law_875 : decode cL_law 875 = .ok (.iaload, 1) := dL_law_872_b.2.2.2.1
theorem dL_law_876 : decode cL_law 876 = .ok (.aload_n 0, 1) := dL_law_872_b.2.2.2.2.1
theorem dL_law_877 : decode cL_law 877 = .ok (.iload_n 3, 1) := dL_law_872_b.2.2.2.2.2.1
theorem dL_law_878 : decode cL_law 878 = .ok (.iconst 2, 1) := dL_law_872_b.2.2.2.2.2.2.1
theorem dL_law_879 : decode cL_law 879 = .ok (.iadd, 1) := dL_law_872_b.2.2.2.2.2.2.2
theorem dL_law_880_b : (decode cL_law 880 = .ok (.iaload, 1)) ∧ (decode cL_law 881 = .ok (.ifCond .eq 7, 3)) ∧ (decode cL_law 884 = .ok (.iconst 1, 1)) ∧ (decode cL_law 885 = .ok (.goto 4, 3)) := by decide +kernel
theorem dL_law_880 : decode cL_law 880 = .ok (.iaload, 1) := dL_law_880_b.1
theorem dL_law_881 : decode cL_law 881 = .ok (.ifCond .eq 7, 3) := dL_law_880_b.2.1
theorem dL_law_884 : decode cL_law 884 = .ok (.iconst 1, 1) := dL_law_880_b.2.2.1
theorem dL_law_885 : decode cL_law 885 = .ok (.goto 4, 3) := dL_law_880_b.2.2.2
