theorem d_Law_law_493 : decode b_Law_law 493 = .ok (.i2l, 1) := by decide +kernel
theorem d_Law_law_494 : decode b_Law_law 494 = .ok (.bipush 32, 2) := by decide +kernel
theorem d_Law_law_496 : decode b_Law_law 496 = .ok (.lshl, 1) := by decide +kernel
theorem d_Law_law_497 : decode b_Law_law 497 = .ok (.aload_n 0, 1) := by decide +kernel
theorem d_Law_law_498 : decode b_Law_law 498 = .ok (.iload 4, 2) := by decide +kernel
theorem d_Law_law_500 : decode b_Law_law 500 = .ok (.iconst 2, 1) := by decide +kernel
theorem d_Law_law_501 : decode b_Law_law 501 = .ok (.iadd, 1) := by decide +kernel
theorem d_Law_law_502 : decode b_Law_law 502 = .ok (.iaload, 1) := by decide +kernel
theorem d_Law_law_503 : decode b_Law_law 503 = .ok (.i2l, 1) := by decide +kernel
theorem d_Law_law_504 : decode b_Law_law 504 = .ok (.ldc2_w 19, 3) := by decide +kernel
theorem d_Law_law_507 : decode b_Law_law 507 = .ok (.land, 1) := by decide +kernel
theorem d_Law_law_508 : decode b_Law_law 508 = .ok (.lor, 1) := by decide +kernel
theorem d_Law_law_509 : decode b_Law_law 509 = .ok (.aload_n 0, 1) := by decide +kernel
theorem d_Law_law_510 : decode b_Law_law 510 = .ok (.iload 4, 2) := by decide +kernel
theorem d_Law_law_512 : decode b_Law_law 512 = .ok (.iconst 3, 1) := by decide +kernel
theorem d_Law_law_513 : decode b_Law_law 513 = .ok (.iadd, 1) := by decide +kernel
theorem d_Law_law_514 : decode b_Law_law 514 = .ok (.iaload, 1) := by decide +kernel
theorem d_Law_law_515 : decode b_Law_law 515 = .ok (.i2l, 1) := by decide +kernel
theorem d_Law_law_516 : decode b_Law_law 516 = .ok (.bipush 32, 2) := by decide +kernel
theorem d_Law_law_518 : decode b_Law_law 518 = .ok (.lshl, 1) := by decide +kernel
theorem d_Law_law_519 : decode b_Law_law 519 = .ok (.aload_n 0, 1) := by decide +kernel
theorem d_Law_law_520 : decode b_Law_law 520 = .ok (.iload 4, 2) := by decide +kernel
theorem d_Law_law_522 : decode b_Law_law 522 = .ok (.iconst 4, 1) := by decide +kernel
theorem d_Law_law_523 : decode b_Law_law 523 = .ok (.iadd, 1) := by decide +kernel
theorem d_Law_law_524 : decode b_Law_law 524 = .ok (.iaload, 1) := by decide +kernel
theorem d_Law_law_525 : decode b_Law_law 525 = .ok (.i2l, 1) := by decide +kernel
theorem d_Law_law_526 : decode b_Law_law 526 = .ok (.ldc2_w 19, 3) := by decide +kernel
theorem d_Law_law_529 : decode b_Law_law 529 = .ok (.land, 1) := by decide +kernel
theorem d_Law_law_530 : decode b_Law_law 530 = .ok (.lor, 1) := by decide +kernel
theorem d_Law_law_531 : decode b_Law_law 531 = .ok (.invokevirtual 49, 3) := by decide +kernel
theorem d_Law_law_534 : decode b_Law_law 534 = .ok (.pop, 1) := by decide +kernel
theorem d_Law_law_535 : decode b_Law_law 535 = .ok (.goto 469, 3) := by decide +kernel
theorem d_Law_law_538 : decode b_Law_law 538 = .ok (.aload_n 1, 1) := by decide +kernel
theorem d_Law_law_539 : decode b_Law_law 539 = .ok (.invokevirtual 50, 3) := by decide +kernel
theorem d_Law_law_542 : decode b_Law_law 542 = .ok (.pop2, 1) := by decide +kernel
theorem d_Law_law_543 : decode b_Law_law 543 = .ok (.aload_n 2, 1) := by decide +kernel
theorem d_Law_law_544 : decode b_Law_law 544 = .ok (.invokevirtual 54, 3) := by decide +kernel
theorem d_Law_law_547 : decode b_Law_law 547 = .ok (.pop2, 1) := by decide +kernel
theorem d_Law_law_548 : decode b_Law_law 548 = .ok (.goto 456, 3) := by decide +kernel
theorem d_Law_law_551 : decode b_Law_law 551 = .ok (.aload_n 1, 1) := by decide +kernel
theorem d_Law_law_552 : decode b_Law_law 552 = .ok (.aload_n 0, 1) := by decide +kernel
theorem d_Law_law_553 : decode b_Law_law 553 = .ok (.iload 4, 2) := by decide +kernel
theorem d_Law_law_555 : decode b_Law_law 555 = .ok (.iconst 1, 1) := by decide +kernel
theorem d_Law_law_556 : decode b_Law_law 556 = .ok (.iadd, 1) := by decide +kernel
theorem d_Law_law_557 : decode b_Law_law 557 = .ok (.iaload, 1) := by decide +kernel
theorem d_Law_law_558 : decode b_Law_law 558 = .ok (.i2l, 1) := by decide +kernel
theorem d_Law_law_559 : decode b_Law_law 559 = .ok (.bipush 32, 2) := by decide +kernel
theorem d_Law_law_561 : decode b_Law_law 561 = .ok (.lshl, 1) := by decide +kernel
theorem d_Law_law_562 : decode b_Law_law 562 = .ok (.aload_n 0, 1) := by decide +kernel
theorem d_Law_law_563 : decode b_Law_law 563 = .ok (.iload 4, 2) := by decide +kernel
theorem d_Law_law_565 : decode b_Law_law 565 = .ok (.iconst 2, 1) := by decide +kernel
theorem d_Law_law_566 : decode b_Law_law 566 = .ok (.iadd, 1) := by decide +kernel
theorem d_Law_law_567 : decode b_Law_law 567 = .ok (.iaload, 1) := by decide +kernel
theorem d_Law_law_568 : decode b_Law_law 568 = .ok (.i2l, 1) := by decide +kernel
theorem d_Law_law_569 : decode b_Law_law 569 = .ok (.ldc2_w 19, 3) := by decide +kernel
theorem d_Law_law_572 : decode b_Law_law 572 = .ok (.land, 1) := by decide +kernel
theorem d_Law_law_573 : decode b_Law_law 573 = .ok (.lor, 1) := by decide +kernel
theorem d_Law_law_574 : decode b_Law_law 574 = .ok (.aload_n 0, 1) := by decide +kernel
theorem d_Law_law_575 : decode b_Law_law 575 = .ok (.iload 4, 2) := by decide +kernel
theorem d_Law_law_577 : decode b_Law_law 577 = .ok (.iconst 3, 1) := by decide +kernel
theorem d_Law_law_578 : decode b_Law_law 578 = .ok (.iadd, 1) := by decide +kernel
theorem d_Law_law_579 : decode b_Law_law 579 = .ok (.iaload, 1) := by decide +kernel
theorem d_Law_law_580 : decode b_Law_law 580 = .ok (.i2l, 1) := by decide +kernel
theorem d_Law_law_581 : decode b_Law_law 581 = .ok (.bipush 32, 2) := by decide +kernel
theorem d_Law_law_583 : decode b_Law_law 583 = .ok (.lshl, 1) := by decide +kernel
theorem d_Law_law_584 : decode b_Law_law 584 = .ok (.aload_n 0, 1) := by decide +kernel
theorem d_Law_law_585 : decode b_Law_law 585 = .ok (.iload 4, 2) := by decide +kernel
theorem d_Law_law_587 : decode b_Law_law 587 = .ok (.iconst 4, 1) := by decide +kernel
theorem d_Law_law_588 : decode b_Law_law 588 = .ok (.iadd, 1) := by decide +kernel
theorem d_Law_law_589 : decode b_Law_law 589 = .ok (.iaload, 1) := by decide +kernel
theorem d_Law_law_590 : decode b_Law_law 590 = .ok (.i2l, 1) := by decide +kernel
theorem d_Law_law_591 : decode b_Law_law 591 = .ok (.ldc2_w 19, 3) := by decide +kernel
theorem d_Law_law_594 : decode b_Law_law 594 = .ok (.land, 1) := by decide +kernel
theorem d_Law_law_595 : decode b_Law_law 595 = .ok (.lor, 1) := by decide +kernel
theorem d_Law_law_596 : decode b_Law_law 596 = .ok (.aload_n 0, 1) := by decide +kernel
theorem d_Law_law_597 : decode b_Law_law 597 = .ok (.iload 4, 2) := by decide +kernel
theorem d_Law_law_599 : decode b_Law_law 599 = .ok (.iconst 5, 1) := by decide +kernel
theorem d_Law_law_600 : decode b_Law_law 600 = .ok (.iadd, 1) := by decide +kernel
theorem d_Law_law_601 : decode b_Law_law 601 = .ok (.iaload, 1) := by decide +kernel
theorem d_Law_law_602 : decode b_Law_law 602 = .ok (.i2l, 1) := by decide +kernel
theorem d_Law_law_603 : decode b_Law_law 603 = .ok (.bipush 32, 2) := by decide +kernel
theorem d_Law_law_605 : decode b_Law_law 605 = .ok (.lshl, 1) := by decide +kernel
theorem d_Law_law_606 : decode b_Law_law 606 = .ok (.aload_n 0, 1) := by decide +kernel
theorem d_Law_law_607 : decode b_Law_law 607 = .ok (.iload 4, 2) := by decide +kernel
theorem d_Law_law_609 : decode b_Law_law 609 = .ok (.bipush 6, 2) := by decide +kernel
theorem d_Law_law_611 : decode b_Law_law 611 = .ok (.iadd, 1) := by decide +kernel
theorem d_Law_law_612 : decode b_Law_law 612 = .ok (.iaload, 1) := by decide +kernel
theorem d_Law_law_613 : decode b_Law_law 613 = .ok (.i2l, 1) := by decide +kernel
theorem d_Law_law_614 : decode b_Law_law 614 = .ok (.ldc2_w 19, 3) := by decide +kernel
theorem d_Law_law_617 : decode b_Law_law 617 = .ok (.land, 1) := by decide +kernel
theorem d_Law_law_618 : decode b_Law_law 618 = .ok (.lor, 1) := by decide +kernel
theorem d_Law_law_619 : decode b_Law_law 619 = .ok (.invokevirtual 55, 3) := by decide +kernel
theorem d_Law_law_622 : decode b_Law_law 622 = .ok (.pop, 1) := by decide +kernel
theorem d_Law_law_623 : decode b_Law_law 623 = .ok (.aload_n 2, 1) := by decide +kernel
theorem d_Law_law_624 : decode b_Law_law 624 = .ok (.aload_n 0, 1) := by decide +kernel
theorem d_Law_law_625 : decode b_Law_law 625 = .ok (.iload 4, 2) := by decide +kernel
theorem d_Law_law_627 : decode b_Law_law 627 = .ok (.iconst 1, 1) := by decide +kernel
theorem d_Law_law_628 : decode b_Law_law 628 = .ok (.iadd, 1) := by decide +kernel
theorem d_Law_law_629 : decode b_Law_law 629 = .ok (.iaload, 1) := by decide +kernel
theorem d_Law_law_630 : decode b_Law_law 630 = .ok (.i2l, 1) := by decide +kernel
theorem d_Law_law_631 : decode b_Law_law 631 = .ok (.bipush 32, 2) := by decide +kernel
theorem d_Law_law_633 : decode b_Law_law 633 = .ok (.lshl, 1) := by decide +kernel
theorem d_Law_law_634 : decode b_Law_law 634 = .ok (.aload_n 0, 1) := by decide +kernel
theorem d_Law_law_635 : decode b_Law_law 635 = .ok (.iload 4, 2) := by decide +kernel
theorem d_Law_law_637 : decode b_Law_law 637 = .ok (.iconst 2, 1) := by decide +kernel
theorem d_Law_law_638 : decode b_Law_law 638 = .ok (.iadd, 1) := by decide +kernel
theorem d_Law_law_639 : decode b_Law_law 639 = .ok (.iaload, 1) := by decide +kernel
theorem d_Law_law_640 : decode b_Law_law 640 = .ok (.i2l, 1) := by decide +kernel
theorem d_Law_law_641 : decode b_Law_law 641 = .ok (.ldc2_w 19, 3) := by decide +kernel
theorem d_Law_law_644 : decode b_Law_law 644 = .ok (.land, 1) := by decide +kernel
theorem d_Law_law_645 : decode b_Law_law 645 = .ok (.lor, 1) := by decide +kernel
theorem d_Law_law_646 : decode b_Law_law 646 = .ok (.aload_n 0, 1) := by decide +kernel
theorem d_Law_law_647 : decode b_Law_law 647 = .ok (.iload 4, 2) := by decide +kernel
theorem d_Law_law_649 : decode b_Law_law 649 = .ok (.iconst 3, 1) := by decide +kernel
theorem d_Law_law_650 : decode b_Law_law 650 = .ok (.iadd, 1) := by decide +kernel
theorem d_Law_law_651 : decode b_Law_law 651 = .ok (.iaload, 1) := by decide +kernel
theorem d_Law_law_652 : decode b_Law_law 652 = .ok (.i2l, 1) := by decide +kernel
theorem d_Law_law_653 : decode b_Law_law 653 = .ok (.bipush 32, 2) := by decide +kernel
theorem d_Law_law_655 : decode b_Law_law 655 = .ok (.lshl, 1) := by decide +kernel
theorem d_Law_law_656 : decode b_Law_law 656 = .ok (.aload_n 0, 1) := by decide +kernel
theorem d_Law_law_657 : decode b_Law_law 657 = .ok (.iload 4, 2) := by decide +kernel
theorem d_Law_law_659 : decode b_Law_law 659 = .ok (.iconst 4, 1) := by decide +kernel
theorem d_Law_law_660 : decode b_Law_law 660 = .ok (.iadd, 1) := by decide +kernel
theorem d_Law_law_661 : decode b_Law_law 661 = .ok (.iaload, 1) := by decide +kernel
theorem d_Law_law_662 : decode b_Law_law 662 = .ok (.i2l, 1) := by decide +kernel
theorem d_Law_law_663 : decode b_Law_law 663 = .ok (.ldc2_w 19, 3) := by decide +kernel
theorem d_Law_law_666 : decode b_Law_law 666 = .ok (.land, 1) := by decide +kernel
theorem d_Law_law_667 : decode b_Law_law 667 = .ok (.lor, 1) := by decide +kernel
theorem d_Law_law_668 : decode b_Law_law 668 = .ok (.aload_n 0, 1) := by decide +kernel
theorem d_Law_law_669 : decode b_Law_law 669 = .ok (.iload 4, 2) := by decide +kernel
theorem d_Law_law_671 : decode b_Law_law 671 = .ok (.iconst 5, 1) := by decide +kernel
theorem d_Law_law_672 : decode b_Law_law 672 = .ok (.iadd, 1) := by decide +kernel
theorem d_Law_law_673 : decode b_Law_law 673 = .ok (.iaload, 1) := by decide +kernel
theorem d_Law_law_674 : decode b_Law_law 674 = .ok (.i2l, 1) := by decide +kernel
theorem d_Law_law_675 : decode b_Law_law 675 = .ok (.bipush 32, 2) := by decide +kernel
theorem d_Law_law_677 : decode b_Law_law 677 = .ok (.lshl, 1) := by decide +kernel
theorem d_Law_law_678 : decode b_Law_law 678 = .ok (.aload_n 0, 1) := by decide +kernel
theorem d_Law_law_679 : decode b_Law_law 679 = .ok (.iload 4, 2) := by decide +kernel
theorem d_Law_law_681 : decode b_Law_law 681 = .ok (.bipush 6, 2) := by decide +kernel
theorem d_Law_law_683 : decode b_Law_law 683 = .ok (.iadd, 1) := by decide +kernel
theorem d_Law_law_684 : decode b_Law_law 684 = .ok (.iaload, 1) := by decide +kernel
theorem d_Law_law_685 : decode b_Law_law 685 = .ok (.i2l, 1) := by decide +kernel
theorem d_Law_law_686 : decode b_Law_law 686 = .ok (.ldc2_w 19, 3) := by decide +kernel
theorem d_Law_law_689 : decode b_Law_law 689 = .ok (.land, 1) := by decide +kernel
theorem d_Law_law_690 : decode b_Law_law 690 = .ok (.lor, 1) := by decide +kernel
theorem d_Law_law_691 : decode b_Law_law 691 = .ok (.invokevirtual 59, 3) := by decide +kernel
theorem d_Law_law_694 : decode b_Law_law 694 = .ok (.pop, 1) := by decide +kernel
theorem d_Law_law_695 : decode b_Law_law 695 = .ok (.goto 309, 3) := by decide +kernel
theorem d_Law_law_698 : decode b_Law_law 698 = .ok (.aload_n 1, 1) := by decide +kernel
theorem d_Law_law_699 : decode b_Law_law 699 = .ok (.aload_n 0, 1) := by decide +kernel
theorem d_Law_law_700 : decode b_Law_law 700 = .ok (.iload 4, 2) := by decide +kernel
theorem d_Law_law_702 : decode b_Law_law 702 = .ok (.iconst 1, 1) := by decide +kernel
theorem d_Law_law_703 : decode b_Law_law 703 = .ok (.iadd, 1) := by decide +kernel
theorem d_Law_law_704 : decode b_Law_law 704 = .ok (.iaload, 1) := by decide +kernel
theorem d_Law_law_705 : decode b_Law_law 705 = .ok (.i2l, 1) := by decide +kernel
theorem d_Law_law_706 : decode b_Law_law 706 = .ok (.bipush 32, 2) := by decide +kernel
theorem d_Law_law_708 : decode b_Law_law 708 = .ok (.lshl, 1) := by decide +kernel
theorem d_Law_law_709 : decode b_Law_law 709 = .ok (.aload_n 0, 1) := by decide +kernel
theorem d_Law_law_710 : decode b_Law_law 710 = .ok (.iload 4, 2) := by decide +kernel
theorem d_Law_law_712 : decode b_Law_law 712 = .ok (.iconst 2, 1) := by decide +kernel
