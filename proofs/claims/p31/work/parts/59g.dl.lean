theorem dL_addsUp_484 : decode cL_addsUp 484 = .ok (.ifCond .ne 75, 3) := by decide +kernel
theorem dL_addsUp_487 : decode cL_addsUp 487 = .ok (.aload_n 0, 1) := by decide +kernel
theorem dL_addsUp_488 : decode cL_addsUp 488 = .ok (.iconst 0, 1) := by decide +kernel
theorem dL_addsUp_489 : decode cL_addsUp 489 = .ok (.invokevirtual 40, 3) := by decide +kernel
theorem dL_addsUp_492 : decode cL_addsUp 492 = .ok (.i2l, 1) := by decide +kernel
theorem dL_addsUp_493 : decode cL_addsUp 493 = .ok (.lload 5, 2) := by decide +kernel
theorem dL_addsUp_495 : decode cL_addsUp 495 = .ok (.aload_n 0, 1) := by decide +kernel
theorem dL_addsUp_496 : decode cL_addsUp 496 = .ok (.iconst 2, 1) := by decide +kernel
theorem dL_addsUp_497 : decode cL_addsUp 497 = .ok (.invokevirtual 40, 3) := by decide +kernel
theorem dL_addsUp_500 : decode cL_addsUp 500 = .ok (.i2l, 1) := by decide +kernel
theorem dL_addsUp_501 : decode cL_addsUp 501 = .ok (.ladd, 1) := by decide +kernel
theorem dL_addsUp_502 : decode cL_addsUp 502 = .ok (.aload_n 0, 1) := by decide +kernel
theorem dL_addsUp_503 : decode cL_addsUp 503 = .ok (.iconst 3, 1) := by decide +kernel
theorem dL_addsUp_504 : decode cL_addsUp 504 = .ok (.invokevirtual 40, 3) := by decide +kernel
theorem dL_addsUp_507 : decode cL_addsUp 507 = .ok (.i2l, 1) := by decide +kernel
theorem dL_addsUp_508 : decode cL_addsUp 508 = .ok (.ladd, 1) := by decide +kernel
theorem dL_addsUp_509 : decode cL_addsUp 509 = .ok (.aload_n 0, 1) := by decide +kernel
theorem dL_addsUp_510 : decode cL_addsUp 510 = .ok (.iconst 4, 1) := by decide +kernel
theorem dL_addsUp_511 : decode cL_addsUp 511 = .ok (.invokevirtual 40, 3) := by decide +kernel
theorem dL_addsUp_514 : decode cL_addsUp 514 = .ok (.i2l, 1) := by decide +kernel
theorem dL_addsUp_515 : decode cL_addsUp 515 = .ok (.ladd, 1) := by decide +kernel
theorem dL_addsUp_516 : decode cL_addsUp 516 = .ok (.aload_n 0, 1) := by decide +kernel
theorem dL_addsUp_517 : decode cL_addsUp 517 = .ok (.iconst 5, 1) := by decide +kernel
theorem dL_addsUp_518 : decode cL_addsUp 518 = .ok (.invokevirtual 40, 3) := by decide +kernel
theorem dL_addsUp_521 : decode cL_addsUp 521 = .ok (.i2l, 1) := by decide +kernel
theorem dL_addsUp_522 : decode cL_addsUp 522 = .ok (.ladd, 1) := by decide +kernel
theorem dL_addsUp_523 : decode cL_addsUp 523 = .ok (.lcmp, 1) := by decide +kernel
theorem dL_addsUp_524 : decode cL_addsUp 524 = .ok (.ifCond .ne 35, 3) := by decide +kernel
theorem dL_addsUp_527 : decode cL_addsUp 527 = .ok (.aload_n 0, 1) := by decide +kernel
theorem dL_addsUp_528 : decode cL_addsUp 528 = .ok (.invokevirtual 100, 3) := by decide +kernel
theorem dL_addsUp_531 : decode cL_addsUp 531 = .ok (.iload 8, 2) := by decide +kernel
theorem dL_addsUp_533 : decode cL_addsUp 533 = .ok (.ifCond .ge 8, 3) := by decide +kernel
theorem dL_addsUp_536 : decode cL_addsUp 536 = .ok (.bipush (-4), 2) := by decide +kernel
theorem dL_addsUp_538 : decode cL_addsUp 538 = .ok (.goto 14, 3) := by decide +kernel
theorem dL_addsUp_541 : decode cL_addsUp 541 = .ok (.iload 8, 2) := by decide +kernel
theorem dL_addsUp_543 : decode cL_addsUp 543 = .ok (.iconst 1, 1) := by decide +kernel
theorem dL_addsUp_544 : decode cL_addsUp 544 = .ok (.iadd, 1) := by decide +kernel
theorem dL_addsUp_545 : decode cL_addsUp 545 = .ok (.aload_n 0, 1) := by decide +kernel
theorem dL_addsUp_546 : decode cL_addsUp 546 = .ok (.bipush 6, 2) := by decide +kernel
theorem dL_addsUp_548 : decode cL_addsUp 548 = .ok (.invokevirtual 13, 3) := by decide +kernel
theorem dL_addsUp_551 : decode cL_addsUp 551 = .ok (.isub, 1) := by decide +kernel
theorem dL_addsUp_552 : decode cL_addsUp 552 = .ok (.if_icmp .ne 7, 3) := by decide +kernel
theorem dL_addsUp_555 : decode cL_addsUp 555 = .ok (.iconst 1, 1) := by decide +kernel
theorem dL_addsUp_556 : decode cL_addsUp 556 = .ok (.goto 4, 3) := by decide +kernel
theorem dL_addsUp_559 : decode cL_addsUp 559 = .ok (.iconst 0, 1) := by decide +kernel
theorem dL_addsUp_560 : decode cL_addsUp 560 = .ok (.istore_n 3, 1) := by decide +kernel
theorem dL_addsUp_561 : decode cL_addsUp 561 = .ok (.iconst 0, 1) := by decide +kernel
theorem dL_addsUp_562 : decode cL_addsUp 562 = .ok (.istore 9, 2) := by decide +kernel
theorem dL_addsUp_564 : decode cL_addsUp 564 = .ok (.iload 9, 2) := by decide +kernel
theorem dL_addsUp_566 : decode cL_addsUp 566 = .ok (.aload_n 0, 1) := by decide +kernel
theorem dL_addsUp_567 : decode cL_addsUp 567 = .ok (.iconst 1, 1) := by decide +kernel
theorem dL_addsUp_568 : decode cL_addsUp 568 = .ok (.invokevirtual 13, 3) := by decide +kernel
theorem dL_addsUp_571 : decode cL_addsUp 571 = .ok (.if_icmp .ge 320, 3) := by decide +kernel
theorem dL_addsUp_574 : decode cL_addsUp 574 = .ok (.iload_n 3, 1) := by decide +kernel
theorem dL_addsUp_575 : decode cL_addsUp 575 = .ok (.ifCond .eq 316, 3) := by decide +kernel
theorem dL_addsUp_578 : decode cL_addsUp 578 = .ok (.iconst 0, 1) := by decide +kernel
theorem dL_addsUp_579 : decode cL_addsUp 579 = .ok (.istore 10, 2) := by decide +kernel
theorem dL_addsUp_581 : decode cL_addsUp 581 = .ok (.iconst 0, 1) := by decide +kernel
theorem dL_addsUp_582 : decode cL_addsUp 582 = .ok (.istore 11, 2) := by decide +kernel
theorem dL_addsUp_584 : decode cL_addsUp 584 = .ok (.iconst 0, 1) := by decide +kernel
theorem dL_addsUp_585 : decode cL_addsUp 585 = .ok (.istore 12, 2) := by decide +kernel
theorem dL_addsUp_587 : decode cL_addsUp 587 = .ok (.aload_n 0, 1) := by decide +kernel
theorem dL_addsUp_588 : decode cL_addsUp 588 = .ok (.iload 9, 2) := by decide +kernel
theorem dL_addsUp_590 : decode cL_addsUp 590 = .ok (.invokevirtual 31, 3) := by decide +kernel
theorem dL_addsUp_593 : decode cL_addsUp 593 = .ok (.istore 13, 2) := by decide +kernel
theorem dL_addsUp_595 : decode cL_addsUp 595 = .ok (.iconst 0, 1) := by decide +kernel
theorem dL_addsUp_596 : decode cL_addsUp 596 = .ok (.istore 14, 2) := by decide +kernel
theorem dL_addsUp_598 : decode cL_addsUp 598 = .ok (.iload 14, 2) := by decide +kernel
theorem dL_addsUp_600 : decode cL_addsUp 600 = .ok (.aload_n 0, 1) := by decide +kernel
theorem dL_addsUp_601 : decode cL_addsUp 601 = .ok (.iconst 0, 1) := by decide +kernel
theorem dL_addsUp_602 : decode cL_addsUp 602 = .ok (.invokevirtual 13, 3) := by decide +kernel
theorem dL_addsUp_605 : decode cL_addsUp 605 = .ok (.if_icmp .ge 35, 3) := by decide +kernel
theorem dL_addsUp_608 : decode cL_addsUp 608 = .ok (.iload 10, 2) := by decide +kernel
theorem dL_addsUp_610 : decode cL_addsUp 610 = .ok (.aload_n 0, 1) := by decide +kernel
theorem dL_addsUp_611 : decode cL_addsUp 611 = .ok (.iload 14, 2) := by decide +kernel
theorem dL_addsUp_613 : decode cL_addsUp 613 = .ok (.iload 9, 2) := by decide +kernel
theorem dL_addsUp_615 : decode cL_addsUp 615 = .ok (.invokevirtual 21, 3) := by decide +kernel
theorem dL_addsUp_618 : decode cL_addsUp 618 = .ok (.iadd, 1) := by decide +kernel
theorem dL_addsUp_619 : decode cL_addsUp 619 = .ok (.istore 10, 2) := by decide +kernel
theorem dL_addsUp_621 : decode cL_addsUp 621 = .ok (.iload 11, 2) := by decide +kernel
theorem dL_addsUp_623 : decode cL_addsUp 623 = .ok (.aload_n 0, 1) := by decide +kernel
theorem dL_addsUp_624 : decode cL_addsUp 624 = .ok (.iload 14, 2) := by decide +kernel
theorem dL_addsUp_626 : decode cL_addsUp 626 = .ok (.iload 9, 2) := by decide +kernel
theorem dL_addsUp_628 : decode cL_addsUp 628 = .ok (.invokevirtual 25, 3) := by decide +kernel
theorem dL_addsUp_631 : decode cL_addsUp 631 = .ok (.iadd, 1) := by decide +kernel
theorem dL_addsUp_632 : decode cL_addsUp 632 = .ok (.istore 11, 2) := by decide +kernel
theorem dL_addsUp_634 : decode cL_addsUp 634 = .ok (.iinc 14 1, 3) := by decide +kernel
theorem dL_addsUp_637 : decode cL_addsUp 637 = .ok (.goto (-39), 3) := by decide +kernel
theorem dL_addsUp_640 : decode cL_addsUp 640 = .ok (.iconst 0, 1) := by decide +kernel
theorem dL_addsUp_641 : decode cL_addsUp 641 = .ok (.istore 14, 2) := by decide +kernel
theorem dL_addsUp_643 : decode cL_addsUp 643 = .ok (.iload 14, 2) := by decide +kernel
theorem dL_addsUp_645 : decode cL_addsUp 645 = .ok (.aload_n 0, 1) := by decide +kernel
theorem dL_addsUp_646 : decode cL_addsUp 646 = .ok (.iconst 2, 1) := by decide +kernel
theorem dL_addsUp_647 : decode cL_addsUp 647 = .ok (.invokevirtual 13, 3) := by decide +kernel
theorem dL_addsUp_650 : decode cL_addsUp 650 = .ok (.if_icmp .ge 99, 3) := by decide +kernel
theorem dL_addsUp_653 : decode cL_addsUp 653 = .ok (.aload_n 0, 1) := by decide +kernel
theorem dL_addsUp_654 : decode cL_addsUp 654 = .ok (.iload 14, 2) := by decide +kernel
theorem dL_addsUp_656 : decode cL_addsUp 656 = .ok (.iconst 0, 1) := by decide +kernel
theorem dL_addsUp_657 : decode cL_addsUp 657 = .ok (.invokevirtual 34, 3) := by decide +kernel
theorem dL_addsUp_660 : decode cL_addsUp 660 = .ok (.iload 9, 2) := by decide +kernel
theorem dL_addsUp_662 : decode cL_addsUp 662 = .ok (.if_icmp .ne 81, 3) := by decide +kernel
theorem dL_addsUp_665 : decode cL_addsUp 665 = .ok (.aload_n 0, 1) := by decide +kernel
theorem dL_addsUp_666 : decode cL_addsUp 666 = .ok (.iload 14, 2) := by decide +kernel
theorem dL_addsUp_668 : decode cL_addsUp 668 = .ok (.iconst 2, 1) := by decide +kernel
theorem dL_addsUp_669 : decode cL_addsUp 669 = .ok (.invokevirtual 34, 3) := by decide +kernel
theorem dL_addsUp_672 : decode cL_addsUp 672 = .ok (.ifCond .le 71, 3) := by decide +kernel
theorem dL_addsUp_675 : decode cL_addsUp 675 = .ok (.iload 12, 2) := by decide +kernel
theorem dL_addsUp_677 : decode cL_addsUp 677 = .ok (.aload_n 0, 1) := by decide +kernel
theorem dL_addsUp_678 : decode cL_addsUp 678 = .ok (.iload 14, 2) := by decide +kernel
theorem dL_addsUp_680 : decode cL_addsUp 680 = .ok (.iconst 2, 1) := by decide +kernel
theorem dL_addsUp_681 : decode cL_addsUp 681 = .ok (.invokevirtual 34, 3) := by decide +kernel
theorem dL_addsUp_684 : decode cL_addsUp 684 = .ok (.iadd, 1) := by decide +kernel
theorem dL_addsUp_685 : decode cL_addsUp 685 = .ok (.istore 12, 2) := by decide +kernel
theorem dL_addsUp_687 : decode cL_addsUp 687 = .ok (.iload_n 3, 1) := by decide +kernel
theorem dL_addsUp_688 : decode cL_addsUp 688 = .ok (.ifCond .eq 53, 3) := by decide +kernel
theorem dL_addsUp_691 : decode cL_addsUp 691 = .ok (.iload 13, 2) := by decide +kernel
theorem dL_addsUp_693 : decode cL_addsUp 693 = .ok (.ifCond .lt 48, 3) := by decide +kernel
theorem dL_addsUp_696 : decode cL_addsUp 696 = .ok (.aload_n 0, 1) := by decide +kernel
theorem dL_addsUp_697 : decode cL_addsUp 697 = .ok (.iload 14, 2) := by decide +kernel
theorem dL_addsUp_699 : decode cL_addsUp 699 = .ok (.iconst 5, 1) := by decide +kernel
theorem dL_addsUp_700 : decode cL_addsUp 700 = .ok (.invokevirtual 34, 3) := by decide +kernel
theorem dL_addsUp_703 : decode cL_addsUp 703 = .ok (.aload_n 0, 1) := by decide +kernel
theorem dL_addsUp_704 : decode cL_addsUp 704 = .ok (.iload 13, 2) := by decide +kernel
theorem dL_addsUp_706 : decode cL_addsUp 706 = .ok (.iconst 5, 1) := by decide +kernel
theorem dL_addsUp_707 : decode cL_addsUp 707 = .ok (.invokevirtual 34, 3) := by decide +kernel
theorem dL_addsUp_710 : decode cL_addsUp 710 = .ok (.if_icmp .gt 27, 3) := by decide +kernel
theorem dL_addsUp_713 : decode cL_addsUp 713 = .ok (.aload_n 0, 1) := by decide +kernel
theorem dL_addsUp_714 : decode cL_addsUp 714 = .ok (.iload 14, 2) := by decide +kernel
theorem dL_addsUp_716 : decode cL_addsUp 716 = .ok (.iconst 5, 1) := by decide +kernel
theorem dL_addsUp_717 : decode cL_addsUp 717 = .ok (.invokevirtual 34, 3) := by decide +kernel
theorem dL_addsUp_720 : decode cL_addsUp 720 = .ok (.aload_n 0, 1) := by decide +kernel
theorem dL_addsUp_721 : decode cL_addsUp 721 = .ok (.iload 13, 2) := by decide +kernel
theorem dL_addsUp_723 : decode cL_addsUp 723 = .ok (.iconst 5, 1) := by decide +kernel
theorem dL_addsUp_724 : decode cL_addsUp 724 = .ok (.invokevirtual 34, 3) := by decide +kernel
theorem dL_addsUp_727 : decode cL_addsUp 727 = .ok (.if_icmp .ne 14, 3) := by decide +kernel
theorem dL_addsUp_730 : decode cL_addsUp 730 = .ok (.iload 14, 2) := by decide +kernel
theorem dL_addsUp_732 : decode cL_addsUp 732 = .ok (.iload 13, 2) := by decide +kernel
theorem dL_addsUp_734 : decode cL_addsUp 734 = .ok (.if_icmp .lt 7, 3) := by decide +kernel
theorem dL_addsUp_737 : decode cL_addsUp 737 = .ok (.iconst 1, 1) := by decide +kernel
theorem dL_addsUp_738 : decode cL_addsUp 738 = .ok (.goto 4, 3) := by decide +kernel
theorem dL_addsUp_741 : decode cL_addsUp 741 = .ok (.iconst 0, 1) := by decide +kernel
theorem dL_addsUp_742 : decode cL_addsUp 742 = .ok (.istore_n 3, 1) := by decide +kernel
theorem dL_addsUp_743 : decode cL_addsUp 743 = .ok (.iinc 14 1, 3) := by decide +kernel
theorem dL_addsUp_746 : decode cL_addsUp 746 = .ok (.goto (-103), 3) := by decide +kernel
theorem dL_addsUp_749 : decode cL_addsUp 749 = .ok (.iload_n 3, 1) := by decide +kernel
