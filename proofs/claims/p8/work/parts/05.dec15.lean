theorem d_Law_law_493 : decode b_Law_law 493 = .ok (.i2l, 1) := by decide +kernel
theorem d_Law_law_494 : decode b_Law_law 494 = .ok (.bipush 32, 2) := by decide +kernel
theorem d_Law_law_496 : decode b_Law_law 496 = .ok (.lshl, 1) := by decide +kernel
theorem d_Law_law_497 : decode b_Law_law 497 = .ok (.aload_n 0, 1) := by decide +kernel
theorem d_Law_law_498 : decode b_Law_law 498 = .ok (.iload 4, 2) := by decide +kernel
theorem d_Law_law_500 : decode b_Law_law 500 = .ok (.iconst 2, 1) := by decide +kernel
theorem d_Law_law_501 : decode b_Law_law 501 = .ok (.iadd, 1) := by decide +kernel
theorem d_Law_law_502 : decode b_Law_law 502 = .ok (.iaload, 1) := by decide +kernel
theorem d_Law_law_503 : decode b_Law_law 503 = .ok (.i2l, 1) := by decide +kernel
theorem d_Law_law_504 : decode b_Law_law 504 = .ok (.ldc2_w 19, 3) := by decide +kernel
theorem d_Law_law_507 : decode b_Law_law 507 = .ok (.land, 1) := by decide +kernel
theorem d_Law_law_508 : decode b_Law_law 508 = .ok (.lor, 1) := by decide +kernel
theorem d_Law_law_509 : decode b_Law_law 509 = .ok (.aload_n 0, 1) := by decide +kernel
theorem d_Law_law_510 : decode b_Law_law 510 = .ok (.iload 4, 2) := by decide +kernel
theorem d_Law_law_512 : decode b_Law_law 512 = .ok (.iconst 3, 1) := by decide +kernel
theorem d_Law_law_513 : decode b_Law_law 513 = .ok (.iadd, 1) := by decide +kernel
theorem d_Law_law_514 : decode b_Law_law 514 = .ok (.iaload, 1) := by decide +kernel
theorem d_Law_law_515 : decode b_Law_law 515 = .ok (.i2l, 1) := by decide +kernel
theorem d_Law_law_516 : decode b_Law_law 516 = .ok (.bipush 32, 2) := by decide +kernel
theorem d_Law_law_518 : decode b_Law_law 518 = .ok (.lshl, 1) := by decide +kernel
theorem d_Law_law_519 : decode b_Law_law 519 = .ok (.aload_n 0, 1) := by decide +kernel
theorem d_Law_law_520 : decode b_Law_law 520 = .ok (.iload 4, 2) := by decide +kernel
theorem d_Law_law_522 : decode b_Law_law 522 = .ok (.iconst 4, 1) := by decide +kernel
theorem d_Law_law_523 : decode b_Law_law 523 = .ok (.iadd, 1) := by decide +kernel
theorem d_Law_law_524 : decode b_Law_law 524 = .ok (.iaload, 1) := by decide +kernel
theorem d_Law_law_525 : decode b_Law_law 525 = .ok (.i2l, 1) := by decide +kernel
theorem d_Law_law_526 : decode b_Law_law 526 = .ok (.ldc2_w 19, 3) := by decide +kernel
theorem d_Law_law_529 : decode b_Law_law 529 = .ok (.land, 1) := by decide +kernel
theorem d_Law_law_530 : decode b_Law_law 530 = .ok (.lor, 1) := by decide +kernel
theorem d_Law_law_531 : decode b_Law_law 531 = .ok (.invokevirtual 49, 3) := by decide +kernel
theorem d_Law_law_534 : decode b_Law_law 534 = .ok (.pop, 1) := by decide +kernel
theorem d_Law_law_535 : decode b_Law_law 535 = .ok (.goto 469, 3) := by decide +kernel
theorem d_Law_law_538 : decode b_Law_law 538 = .ok (.aload_n 1, 1) := by decide +kernel
theorem d_Law_law_539 : decode b_Law_law 539 = .ok (.invokevirtual 50, 3) := by decide +kernel
theorem d_Law_law_542 : decode b_Law_law 542 = .ok (.aload_n 2, 1) := by decide +kernel
theorem d_Law_law_543 : decode b_Law_law 543 = .ok (.invokevirtual 54, 3) := by decide +kernel
theorem d_Law_law_546 : decode b_Law_law 546 = .ok (.lcmp, 1) := by decide +kernel
theorem d_Law_law_547 : decode b_Law_law 547 = .ok (.ifCond .eq 457, 3) := by decide +kernel
theorem d_Law_law_550 : decode b_Law_law 550 = .ok (.iconst 0, 1) := by decide +kernel
theorem d_Law_law_551 : decode b_Law_law 551 = .ok (.ireturn, 1) := by decide +kernel
theorem d_Law_law_552 : decode b_Law_law 552 = .ok (.aload_n 1, 1) := by decide +kernel
theorem d_Law_law_553 : decode b_Law_law 553 = .ok (.aload_n 0, 1) := by decide +kernel
theorem d_Law_law_554 : decode b_Law_law 554 = .ok (.iload 4, 2) := by decide +kernel
theorem d_Law_law_556 : decode b_Law_law 556 = .ok (.iconst 1, 1) := by decide +kernel
theorem d_Law_law_557 : decode b_Law_law 557 = .ok (.iadd, 1) := by decide +kernel
theorem d_Law_law_558 : decode b_Law_law 558 = .ok (.iaload, 1) := by decide +kernel
theorem d_Law_law_559 : decode b_Law_law 559 = .ok (.i2l, 1) := by decide +kernel
theorem d_Law_law_560 : decode b_Law_law 560 = .ok (.bipush 32, 2) := by decide +kernel
theorem d_Law_law_562 : decode b_Law_law 562 = .ok (.lshl, 1) := by decide +kernel
theorem d_Law_law_563 : decode b_Law_law 563 = .ok (.aload_n 0, 1) := by decide +kernel
theorem d_Law_law_564 : decode b_Law_law 564 = .ok (.iload 4, 2) := by decide +kernel
theorem d_Law_law_566 : decode b_Law_law 566 = .ok (.iconst 2, 1) := by decide +kernel
theorem d_Law_law_567 : decode b_Law_law 567 = .ok (.iadd, 1) := by decide +kernel
theorem d_Law_law_568 : decode b_Law_law 568 = .ok (.iaload, 1) := by decide +kernel
theorem d_Law_law_569 : decode b_Law_law 569 = .ok (.i2l, 1) := by decide +kernel
theorem d_Law_law_570 : decode b_Law_law 570 = .ok (.ldc2_w 19, 3) := by decide +kernel
theorem d_Law_law_573 : decode b_Law_law 573 = .ok (.land, 1) := by decide +kernel
theorem d_Law_law_574 : decode b_Law_law 574 = .ok (.lor, 1) := by decide +kernel
theorem d_Law_law_575 : decode b_Law_law 575 = .ok (.aload_n 0, 1) := by decide +kernel
theorem d_Law_law_576 : decode b_Law_law 576 = .ok (.iload 4, 2) := by decide +kernel
theorem d_Law_law_578 : decode b_Law_law 578 = .ok (.iconst 3, 1) := by decide +kernel
theorem d_Law_law_579 : decode b_Law_law 579 = .ok (.iadd, 1) := by decide +kernel
theorem d_Law_law_580 : decode b_Law_law 580 = .ok (.iaload, 1) := by decide +kernel
theorem d_Law_law_581 : decode b_Law_law 581 = .ok (.i2l, 1) := by decide +kernel
theorem d_Law_law_582 : decode b_Law_law 582 = .ok (.bipush 32, 2) := by decide +kernel
theorem d_Law_law_584 : decode b_Law_law 584 = .ok (.lshl, 1) := by decide +kernel
theorem d_Law_law_585 : decode b_Law_law 585 = .ok (.aload_n 0, 1) := by decide +kernel
theorem d_Law_law_586 : decode b_Law_law 586 = .ok (.iload 4, 2) := by decide +kernel
theorem d_Law_law_588 : decode b_Law_law 588 = .ok (.iconst 4, 1) := by decide +kernel
theorem d_Law_law_589 : decode b_Law_law 589 = .ok (.iadd, 1) := by decide +kernel
theorem d_Law_law_590 : decode b_Law_law 590 = .ok (.iaload, 1) := by decide +kernel
theorem d_Law_law_591 : decode b_Law_law 591 = .ok (.i2l, 1) := by decide +kernel
theorem d_Law_law_592 : decode b_Law_law 592 = .ok (.ldc2_w 19, 3) := by decide +kernel
theorem d_Law_law_595 : decode b_Law_law 595 = .ok (.land, 1) := by decide +kernel
theorem d_Law_law_596 : decode b_Law_law 596 = .ok (.lor, 1) := by decide +kernel
theorem d_Law_law_597 : decode b_Law_law 597 = .ok (.aload_n 0, 1) := by decide +kernel
theorem d_Law_law_598 : decode b_Law_law 598 = .ok (.iload 4, 2) := by decide +kernel
theorem d_Law_law_600 : decode b_Law_law 600 = .ok (.iconst 5, 1) := by decide +kernel
theorem d_Law_law_601 : decode b_Law_law 601 = .ok (.iadd, 1) := by decide +kernel
theorem d_Law_law_602 : decode b_Law_law 602 = .ok (.iaload, 1) := by decide +kernel
theorem d_Law_law_603 : decode b_Law_law 603 = .ok (.i2l, 1) := by decide +kernel
theorem d_Law_law_604 : decode b_Law_law 604 = .ok (.bipush 32, 2) := by decide +kernel
theorem d_Law_law_606 : decode b_Law_law 606 = .ok (.lshl, 1) := by decide +kernel
theorem d_Law_law_607 : decode b_Law_law 607 = .ok (.aload_n 0, 1) := by decide +kernel
theorem d_Law_law_608 : decode b_Law_law 608 = .ok (.iload 4, 2) := by decide +kernel
theorem d_Law_law_610 : decode b_Law_law 610 = .ok (.bipush 6, 2) := by decide +kernel
theorem d_Law_law_612 : decode b_Law_law 612 = .ok (.iadd, 1) := by decide +kernel
theorem d_Law_law_613 : decode b_Law_law 613 = .ok (.iaload, 1) := by decide +kernel
theorem d_Law_law_614 : decode b_Law_law 614 = .ok (.i2l, 1) := by decide +kernel
theorem d_Law_law_615 : decode b_Law_law 615 = .ok (.ldc2_w 19, 3) := by decide +kernel
theorem d_Law_law_618 : decode b_Law_law 618 = .ok (.land, 1) := by decide +kernel
theorem d_Law_law_619 : decode b_Law_law 619 = .ok (.lor, 1) := by decide +kernel
theorem d_Law_law_620 : decode b_Law_law 620 = .ok (.invokevirtual 55, 3) := by decide +kernel
theorem d_Law_law_623 : decode b_Law_law 623 = .ok (.pop, 1) := by decide +kernel
theorem d_Law_law_624 : decode b_Law_law 624 = .ok (.aload_n 2, 1) := by decide +kernel
theorem d_Law_law_625 : decode b_Law_law 625 = .ok (.aload_n 0, 1) := by decide +kernel
theorem d_Law_law_626 : decode b_Law_law 626 = .ok (.iload 4, 2) := by decide +kernel
theorem d_Law_law_628 : decode b_Law_law 628 = .ok (.iconst 1, 1) := by decide +kernel
theorem d_Law_law_629 : decode b_Law_law 629 = .ok (.iadd, 1) := by decide +kernel
theorem d_Law_law_630 : decode b_Law_law 630 = .ok (.iaload, 1) := by decide +kernel
theorem d_Law_law_631 : decode b_Law_law 631 = .ok (.i2l, 1) := by decide +kernel
theorem d_Law_law_632 : decode b_Law_law 632 = .ok (.bipush 32, 2) := by decide +kernel
theorem d_Law_law_634 : decode b_Law_law 634 = .ok (.lshl, 1) := by decide +kernel
theorem d_Law_law_635 : decode b_Law_law 635 = .ok (.aload_n 0, 1) := by decide +kernel
theorem d_Law_law_636 : decode b_Law_law 636 = .ok (.iload 4, 2) := by decide +kernel
theorem d_Law_law_638 : decode b_Law_law 638 = .ok (.iconst 2, 1) := by decide +kernel
theorem d_Law_law_639 : decode b_Law_law 639 = .ok (.iadd, 1) := by decide +kernel
theorem d_Law_law_640 : decode b_Law_law 640 = .ok (.iaload, 1) := by decide +kernel
theorem d_Law_law_641 : decode b_Law_law 641 = .ok (.i2l, 1) := by decide +kernel
theorem d_Law_law_642 : decode b_Law_law 642 = .ok (.ldc2_w 19, 3) := by decide +kernel
theorem d_Law_law_645 : decode b_Law_law 645 = .ok (.land, 1) := by decide +kernel
theorem d_Law_law_646 : decode b_Law_law 646 = .ok (.lor, 1) := by decide +kernel
theorem d_Law_law_647 : decode b_Law_law 647 = .ok (.aload_n 0, 1) := by decide +kernel
theorem d_Law_law_648 : decode b_Law_law 648 = .ok (.iload 4, 2) := by decide +kernel
theorem d_Law_law_650 : decode b_Law_law 650 = .ok (.iconst 3, 1) := by decide +kernel
theorem d_Law_law_651 : decode b_Law_law 651 = .ok (.iadd, 1) := by decide +kernel
theorem d_Law_law_652 : decode b_Law_law 652 = .ok (.iaload, 1) := by decide +kernel
theorem d_Law_law_653 : decode b_Law_law 653 = .ok (.i2l, 1) := by decide +kernel
theorem d_Law_law_654 : decode b_Law_law 654 = .ok (.bipush 32, 2) := by decide +kernel
theorem d_Law_law_656 : decode b_Law_law 656 = .ok (.lshl, 1) := by decide +kernel
theorem d_Law_law_657 : decode b_Law_law 657 = .ok (.aload_n 0, 1) := by decide +kernel
theorem d_Law_law_658 : decode b_Law_law 658 = .ok (.iload 4, 2) := by decide +kernel
theorem d_Law_law_660 : decode b_Law_law 660 = .ok (.iconst 4, 1) := by decide +kernel
theorem d_Law_law_661 : decode b_Law_law 661 = .ok (.iadd, 1) := by decide +kernel
theorem d_Law_law_662 : decode b_Law_law 662 = .ok (.iaload, 1) := by decide +kernel
theorem d_Law_law_663 : decode b_Law_law 663 = .ok (.i2l, 1) := by decide +kernel
theorem d_Law_law_664 : decode b_Law_law 664 = .ok (.ldc2_w 19, 3) := by decide +kernel
theorem d_Law_law_667 : decode b_Law_law 667 = .ok (.land, 1) := by decide +kernel
theorem d_Law_law_668 : decode b_Law_law 668 = .ok (.lor, 1) := by decide +kernel
theorem d_Law_law_669 : decode b_Law_law 669 = .ok (.aload_n 0, 1) := by decide +kernel
theorem d_Law_law_670 : decode b_Law_law 670 = .ok (.iload 4, 2) := by decide +kernel
theorem d_Law_law_672 : decode b_Law_law 672 = .ok (.iconst 5, 1) := by decide +kernel
theorem d_Law_law_673 : decode b_Law_law 673 = .ok (.iadd, 1) := by decide +kernel
theorem d_Law_law_674 : decode b_Law_law 674 = .ok (.iaload, 1) := by decide +kernel
theorem d_Law_law_675 : decode b_Law_law 675 = .ok (.i2l, 1) := by decide +kernel
theorem d_Law_law_676 : decode b_Law_law 676 = .ok (.bipush 32, 2) := by decide +kernel
theorem d_Law_law_678 : decode b_Law_law 678 = .ok (.lshl, 1) := by decide +kernel
theorem d_Law_law_679 : decode b_Law_law 679 = .ok (.aload_n 0, 1) := by decide +kernel
theorem d_Law_law_680 : decode b_Law_law 680 = .ok (.iload 4, 2) := by decide +kernel
theorem d_Law_law_682 : decode b_Law_law 682 = .ok (.bipush 6, 2) := by decide +kernel
theorem d_Law_law_684 : decode b_Law_law 684 = .ok (.iadd, 1) := by decide +kernel
theorem d_Law_law_685 : decode b_Law_law 685 = .ok (.iaload, 1) := by decide +kernel
theorem d_Law_law_686 : decode b_Law_law 686 = .ok (.i2l, 1) := by decide +kernel
theorem d_Law_law_687 : decode b_Law_law 687 = .ok (.ldc2_w 19, 3) := by decide +kernel
theorem d_Law_law_690 : decode b_Law_law 690 = .ok (.land, 1) := by decide +kernel
theorem d_Law_law_691 : decode b_Law_law 691 = .ok (.lor, 1) := by decide +kernel
theorem d_Law_law_692 : decode b_Law_law 692 = .ok (.invokevirtual 59, 3) := by decide +kernel
theorem d_Law_law_695 : decode b_Law_law 695 = .ok (.pop, 1) := by decide +kernel
theorem d_Law_law_696 : decode b_Law_law 696 = .ok (.goto 308, 3) := by decide +kernel
theorem d_Law_law_699 : decode b_Law_law 699 = .ok (.aload_n 1, 1) := by decide +kernel
theorem d_Law_law_700 : decode b_Law_law 700 = .ok (.aload_n 0, 1) := by decide +kernel
theorem d_Law_law_701 : decode b_Law_law 701 = .ok (.iload 4, 2) := by decide +kernel
theorem d_Law_law_703 : decode b_Law_law 703 = .ok (.iconst 1, 1) := by decide +kernel
theorem d_Law_law_704 : decode b_Law_law 704 = .ok (.iadd, 1) := by decide +kernel
theorem d_Law_law_705 : decode b_Law_law 705 = .ok (.iaload, 1) := by decide +kernel
theorem d_Law_law_706 : decode b_Law_law 706 = .ok (.i2l, 1) := by decide +kernel
theorem d_Law_law_707 : decode b_Law_law 707 = .ok (.bipush 32, 2) := by decide +kernel
theorem d_Law_law_709 : decode b_Law_law 709 = .ok (.lshl, 1) := by decide +kernel
theorem d_Law_law_710 : decode b_Law_law 710 = .ok (.aload_n 0, 1) := by decide +kernel
theorem d_Law_law_711 : decode b_Law_law 711 = .ok (.iload 4, 2) := by decide +kernel
