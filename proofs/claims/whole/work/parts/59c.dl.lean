theorem dL_508 : decode cL_law 508 = .ok (.if_icmp .eq 406, 3) := by decide +kernel
theorem dL_511 : decode cL_law 511 = .ok (.iconst 0, 1) := by decide +kernel
theorem dL_512 : decode cL_law 512 = .ok (.ireturn, 1) := by decide +kernel
theorem dL_513 : decode cL_law 513 = .ok (.aload_n 1, 1) := by decide +kernel
theorem dL_514 : decode cL_law 514 = .ok (.aload_n 0, 1) := by decide +kernel
theorem dL_515 : decode cL_law 515 = .ok (.iload_n 3, 1) := by decide +kernel
theorem dL_516 : decode cL_law 516 = .ok (.iconst 1, 1) := by decide +kernel
theorem dL_517 : decode cL_law 517 = .ok (.iadd, 1) := by decide +kernel
theorem dL_518 : decode cL_law 518 = .ok (.iaload, 1) := by decide +kernel
theorem dL_519 : decode cL_law 519 = .ok (.aload_n 0, 1) := by decide +kernel
theorem dL_520 : decode cL_law 520 = .ok (.iload_n 3, 1) := by decide +kernel
theorem dL_521 : decode cL_law 521 = .ok (.iconst 2, 1) := by decide +kernel
theorem dL_522 : decode cL_law 522 = .ok (.iadd, 1) := by decide +kernel
theorem dL_523 : decode cL_law 523 = .ok (.iaload, 1) := by decide +kernel
theorem dL_524 : decode cL_law 524 = .ok (.aload_n 0, 1) := by decide +kernel
theorem dL_525 : decode cL_law 525 = .ok (.iload_n 3, 1) := by decide +kernel
theorem dL_526 : decode cL_law 526 = .ok (.iconst 3, 1) := by decide +kernel
theorem dL_527 : decode cL_law 527 = .ok (.iadd, 1) := by decide +kernel
theorem dL_528 : decode cL_law 528 = .ok (.iaload, 1) := by decide +kernel
theorem dL_529 : decode cL_law 529 = .ok (.aload_n 0, 1) := by decide +kernel
theorem dL_530 : decode cL_law 530 = .ok (.iload_n 3, 1) := by decide +kernel
theorem dL_531 : decode cL_law 531 = .ok (.iconst 4, 1) := by decide +kernel
theorem dL_532 : decode cL_law 532 = .ok (.iadd, 1) := by decide +kernel
theorem dL_533 : decode cL_law 533 = .ok (.iaload, 1) := by decide +kernel
theorem dL_534 : decode cL_law 534 = .ok (.invokevirtual 61, 3) := by decide +kernel
theorem dL_537 : decode cL_law 537 = .ok (.aload_n 2, 1) := by decide +kernel
theorem dL_538 : decode cL_law 538 = .ok (.aload_n 0, 1) := by decide +kernel
theorem dL_539 : decode cL_law 539 = .ok (.iload_n 3, 1) := by decide +kernel
theorem dL_540 : decode cL_law 540 = .ok (.iconst 1, 1) := by decide +kernel
theorem dL_541 : decode cL_law 541 = .ok (.iadd, 1) := by decide +kernel
theorem dL_542 : decode cL_law 542 = .ok (.iaload, 1) := by decide +kernel
theorem dL_543 : decode cL_law 543 = .ok (.aload_n 0, 1) := by decide +kernel
theorem dL_544 : decode cL_law 544 = .ok (.iload_n 3, 1) := by decide +kernel
theorem dL_545 : decode cL_law 545 = .ok (.iconst 2, 1) := by decide +kernel
theorem dL_546 : decode cL_law 546 = .ok (.iadd, 1) := by decide +kernel
theorem dL_547 : decode cL_law 547 = .ok (.iaload, 1) := by decide +kernel
theorem dL_548 : decode cL_law 548 = .ok (.aload_n 0, 1) := by decide +kernel
theorem dL_549 : decode cL_law 549 = .ok (.iload_n 3, 1) := by decide +kernel
theorem dL_550 : decode cL_law 550 = .ok (.iconst 3, 1) := by decide +kernel
theorem dL_551 : decode cL_law 551 = .ok (.iadd, 1) := by decide +kernel
theorem dL_552 : decode cL_law 552 = .ok (.iaload, 1) := by decide +kernel
theorem dL_553 : decode cL_law 553 = .ok (.aload_n 0, 1) := by decide +kernel
theorem dL_554 : decode cL_law 554 = .ok (.iload_n 3, 1) := by decide +kernel
theorem dL_555 : decode cL_law 555 = .ok (.iconst 4, 1) := by decide +kernel
theorem dL_556 : decode cL_law 556 = .ok (.iadd, 1) := by decide +kernel
theorem dL_557 : decode cL_law 557 = .ok (.iaload, 1) := by decide +kernel
theorem dL_558 : decode cL_law 558 = .ok (.invokevirtual 65, 3) := by decide +kernel
theorem dL_561 : decode cL_law 561 = .ok (.if_icmp .eq 353, 3) := by decide +kernel
theorem dL_564 : decode cL_law 564 = .ok (.iconst 0, 1) := by decide +kernel
theorem dL_565 : decode cL_law 565 = .ok (.ireturn, 1) := by decide +kernel
theorem dL_566 : decode cL_law 566 = .ok (.aload_n 1, 1) := by decide +kernel
theorem dL_567 : decode cL_law 567 = .ok (.aload_n 0, 1) := by decide +kernel
theorem dL_568 : decode cL_law 568 = .ok (.iload_n 3, 1) := by decide +kernel
theorem dL_569 : decode cL_law 569 = .ok (.iconst 1, 1) := by decide +kernel
theorem dL_570 : decode cL_law 570 = .ok (.iadd, 1) := by decide +kernel
theorem dL_571 : decode cL_law 571 = .ok (.iaload, 1) := by decide +kernel
theorem dL_572 : decode cL_law 572 = .ok (.invokevirtual 66, 3) := by decide +kernel
theorem dL_575 : decode cL_law 575 = .ok (.aload_n 2, 1) := by decide +kernel
theorem dL_576 : decode cL_law 576 = .ok (.aload_n 0, 1) := by decide +kernel
theorem dL_577 : decode cL_law 577 = .ok (.iload_n 3, 1) := by decide +kernel
theorem dL_578 : decode cL_law 578 = .ok (.iconst 1, 1) := by decide +kernel
theorem dL_579 : decode cL_law 579 = .ok (.iadd, 1) := by decide +kernel
theorem dL_580 : decode cL_law 580 = .ok (.iaload, 1) := by decide +kernel
theorem dL_581 : decode cL_law 581 = .ok (.invokevirtual 69, 3) := by decide +kernel
theorem dL_584 : decode cL_law 584 = .ok (.if_icmp .eq 330, 3) := by decide +kernel
theorem dL_587 : decode cL_law 587 = .ok (.iconst 0, 1) := by decide +kernel
theorem dL_588 : decode cL_law 588 = .ok (.ireturn, 1) := by decide +kernel
theorem dL_589 : decode cL_law 589 = .ok (.aload_n 1, 1) := by decide +kernel
theorem dL_590 : decode cL_law 590 = .ok (.aload_n 0, 1) := by decide +kernel
theorem dL_591 : decode cL_law 591 = .ok (.iload_n 3, 1) := by decide +kernel
theorem dL_592 : decode cL_law 592 = .ok (.iconst 1, 1) := by decide +kernel
theorem dL_593 : decode cL_law 593 = .ok (.iadd, 1) := by decide +kernel
theorem dL_594 : decode cL_law 594 = .ok (.iaload, 1) := by decide +kernel
theorem dL_595 : decode cL_law 595 = .ok (.invokevirtual 70, 3) := by decide +kernel
theorem dL_598 : decode cL_law 598 = .ok (.aload_n 2, 1) := by decide +kernel
theorem dL_599 : decode cL_law 599 = .ok (.aload_n 0, 1) := by decide +kernel
theorem dL_600 : decode cL_law 600 = .ok (.iload_n 3, 1) := by decide +kernel
theorem dL_601 : decode cL_law 601 = .ok (.iconst 1, 1) := by decide +kernel
theorem dL_602 : decode cL_law 602 = .ok (.iadd, 1) := by decide +kernel
theorem dL_603 : decode cL_law 603 = .ok (.iaload, 1) := by decide +kernel
theorem dL_604 : decode cL_law 604 = .ok (.invokevirtual 73, 3) := by decide +kernel
theorem dL_607 : decode cL_law 607 = .ok (.if_icmp .eq 307, 3) := by decide +kernel
theorem dL_610 : decode cL_law 610 = .ok (.iconst 0, 1) := by decide +kernel
theorem dL_611 : decode cL_law 611 = .ok (.ireturn, 1) := by decide +kernel
theorem dL_612 : decode cL_law 612 = .ok (.aload_n 1, 1) := by decide +kernel
theorem dL_613 : decode cL_law 613 = .ok (.aload_n 0, 1) := by decide +kernel
theorem dL_614 : decode cL_law 614 = .ok (.iload_n 3, 1) := by decide +kernel
theorem dL_615 : decode cL_law 615 = .ok (.iconst 1, 1) := by decide +kernel
theorem dL_616 : decode cL_law 616 = .ok (.iadd, 1) := by decide +kernel
theorem dL_617 : decode cL_law 617 = .ok (.iaload, 1) := by decide +kernel
theorem dL_618 : decode cL_law 618 = .ok (.invokevirtual 74, 3) := by decide +kernel
theorem dL_621 : decode cL_law 621 = .ok (.aload_n 2, 1) := by decide +kernel
theorem dL_622 : decode cL_law 622 = .ok (.aload_n 0, 1) := by decide +kernel
theorem dL_623 : decode cL_law 623 = .ok (.iload_n 3, 1) := by decide +kernel
theorem dL_624 : decode cL_law 624 = .ok (.iconst 1, 1) := by decide +kernel
theorem dL_625 : decode cL_law 625 = .ok (.iadd, 1) := by decide +kernel
theorem dL_626 : decode cL_law 626 = .ok (.iaload, 1) := by decide +kernel
theorem dL_627 : decode cL_law 627 = .ok (.invokevirtual 77, 3) := by decide +kernel
theorem dL_630 : decode cL_law 630 = .ok (.if_icmp .eq 284, 3) := by decide +kernel
theorem dL_633 : decode cL_law 633 = .ok (.iconst 0, 1) := by decide +kernel
theorem dL_634 : decode cL_law 634 = .ok (.ireturn, 1) := by decide +kernel
theorem dL_635 : decode cL_law 635 = .ok (.aload_n 1, 1) := by decide +kernel
theorem dL_636 : decode cL_law 636 = .ok (.aload_n 0, 1) := by decide +kernel
theorem dL_637 : decode cL_law 637 = .ok (.iload_n 3, 1) := by decide +kernel
theorem dL_638 : decode cL_law 638 = .ok (.iconst 1, 1) := by decide +kernel
theorem dL_639 : decode cL_law 639 = .ok (.iadd, 1) := by decide +kernel
theorem dL_640 : decode cL_law 640 = .ok (.iaload, 1) := by decide +kernel
theorem dL_641 : decode cL_law 641 = .ok (.invokevirtual 78, 3) := by decide +kernel
theorem dL_644 : decode cL_law 644 = .ok (.aload_n 2, 1) := by decide +kernel
theorem dL_645 : decode cL_law 645 = .ok (.aload_n 0, 1) := by decide +kernel
theorem dL_646 : decode cL_law 646 = .ok (.iload_n 3, 1) := by decide +kernel
theorem dL_647 : decode cL_law 647 = .ok (.iconst 1, 1) := by decide +kernel
theorem dL_648 : decode cL_law 648 = .ok (.iadd, 1) := by decide +kernel
theorem dL_649 : decode cL_law 649 = .ok (.iaload, 1) := by decide +kernel
theorem dL_650 : decode cL_law 650 = .ok (.invokevirtual 81, 3) := by decide +kernel
theorem dL_653 : decode cL_law 653 = .ok (.if_icmp .eq 261, 3) := by decide +kernel
theorem dL_656 : decode cL_law 656 = .ok (.iconst 0, 1) := by decide +kernel
theorem dL_657 : decode cL_law 657 = .ok (.ireturn, 1) := by decide +kernel
theorem dL_658 : decode cL_law 658 = .ok (.aload_n 1, 1) := by decide +kernel
theorem dL_659 : decode cL_law 659 = .ok (.aload_n 0, 1) := by decide +kernel
theorem dL_660 : decode cL_law 660 = .ok (.iload_n 3, 1) := by decide +kernel
theorem dL_661 : decode cL_law 661 = .ok (.iconst 1, 1) := by decide +kernel
theorem dL_662 : decode cL_law 662 = .ok (.iadd, 1) := by decide +kernel
theorem dL_663 : decode cL_law 663 = .ok (.iaload, 1) := by decide +kernel
theorem dL_664 : decode cL_law 664 = .ok (.aload_n 0, 1) := by decide +kernel
theorem dL_665 : decode cL_law 665 = .ok (.iload_n 3, 1) := by decide +kernel
theorem dL_666 : decode cL_law 666 = .ok (.iconst 2, 1) := by decide +kernel
theorem dL_667 : decode cL_law 667 = .ok (.iadd, 1) := by decide +kernel
theorem dL_668 : decode cL_law 668 = .ok (.iaload, 1) := by decide +kernel
theorem dL_669 : decode cL_law 669 = .ok (.invokevirtual 82, 3) := by decide +kernel
theorem dL_672 : decode cL_law 672 = .ok (.aload_n 2, 1) := by decide +kernel
theorem dL_673 : decode cL_law 673 = .ok (.aload_n 0, 1) := by decide +kernel
theorem dL_674 : decode cL_law 674 = .ok (.iload_n 3, 1) := by decide +kernel
theorem dL_675 : decode cL_law 675 = .ok (.iconst 1, 1) := by decide +kernel
theorem dL_676 : decode cL_law 676 = .ok (.iadd, 1) := by decide +kernel
theorem dL_677 : decode cL_law 677 = .ok (.iaload, 1) := by decide +kernel
theorem dL_678 : decode cL_law 678 = .ok (.aload_n 0, 1) := by decide +kernel
theorem dL_679 : decode cL_law 679 = .ok (.iload_n 3, 1) := by decide +kernel
theorem dL_680 : decode cL_law 680 = .ok (.iconst 2, 1) := by decide +kernel
theorem dL_681 : decode cL_law 681 = .ok (.iadd, 1) := by decide +kernel
theorem dL_682 : decode cL_law 682 = .ok (.iaload, 1) := by decide +kernel
theorem dL_683 : decode cL_law 683 = .ok (.invokevirtual 85, 3) := by decide +kernel
theorem dL_686 : decode cL_law 686 = .ok (.if_icmp .eq 228, 3) := by decide +kernel
theorem dL_689 : decode cL_law 689 = .ok (.iconst 0, 1) := by decide +kernel
theorem dL_690 : decode cL_law 690 = .ok (.ireturn, 1) := by decide +kernel
theorem dL_691 : decode cL_law 691 = .ok (.aload_n 1, 1) := by decide +kernel
theorem dL_692 : decode cL_law 692 = .ok (.aload_n 0, 1) := by decide +kernel
theorem dL_693 : decode cL_law 693 = .ok (.iload_n 3, 1) := by decide +kernel
theorem dL_694 : decode cL_law 694 = .ok (.iconst 1, 1) := by decide +kernel
theorem dL_695 : decode cL_law 695 = .ok (.iadd, 1) := by decide +kernel
theorem dL_696 : decode cL_law 696 = .ok (.iaload, 1) := by decide +kernel
theorem dL_697 : decode cL_law 697 = .ok (.aload_n 0, 1) := by decide +kernel
theorem dL_698 : decode cL_law 698 = .ok (.iload_n 3, 1) := by decide +kernel
