theorem dL_refused_408 : decode cL_refused 408 = .ok (.iconst (-1), 1) := by decide +kernel
theorem dL_refused_409 : decode cL_refused 409 = .ok (.if_icmp .ne 36, 3) := by decide +kernel
theorem dL_refused_412 : decode cL_refused 412 = .ok (.aload_n 0, 1) := by decide +kernel
theorem dL_refused_413 : decode cL_refused 413 = .ok (.bipush 31, 2) := by decide +kernel
theorem dL_refused_415 : decode cL_refused 415 = .ok (.invokevirtual 89, 3) := by decide +kernel
theorem dL_refused_418 : decode cL_refused 418 = .ok (.iconst (-1), 1) := by decide +kernel
theorem dL_refused_419 : decode cL_refused 419 = .ok (.if_icmp .ne 26, 3) := by decide +kernel
theorem dL_refused_422 : decode cL_refused 422 = .ok (.aload_n 0, 1) := by decide +kernel
theorem dL_refused_423 : decode cL_refused 423 = .ok (.bipush 127, 2) := by decide +kernel
theorem dL_refused_425 : decode cL_refused 425 = .ok (.invokevirtual 89, 3) := by decide +kernel
theorem dL_refused_428 : decode cL_refused 428 = .ok (.iconst (-1), 1) := by decide +kernel
theorem dL_refused_429 : decode cL_refused 429 = .ok (.if_icmp .ne 16, 3) := by decide +kernel
theorem dL_refused_432 : decode cL_refused 432 = .ok (.aload_n 0, 1) := by decide +kernel
theorem dL_refused_433 : decode cL_refused 433 = .ok (.iconst 3, 1) := by decide +kernel
theorem dL_refused_434 : decode cL_refused 434 = .ok (.invokevirtual 92, 3) := by decide +kernel
theorem dL_refused_437 : decode cL_refused 437 = .ok (.iconst (-1), 1) := by decide +kernel
theorem dL_refused_438 : decode cL_refused 438 = .ok (.if_icmp .ne 7, 3) := by decide +kernel
theorem dL_refused_441 : decode cL_refused 441 = .ok (.iconst 1, 1) := by decide +kernel
theorem dL_refused_442 : decode cL_refused 442 = .ok (.goto 4, 3) := by decide +kernel
theorem dL_refused_445 : decode cL_refused 445 = .ok (.iconst 0, 1) := by decide +kernel
theorem dL_refused_446 : decode cL_refused 446 = .ok (.istore 6, 2) := by decide +kernel
theorem dL_refused_448 : decode cL_refused 448 = .ok (.iload_n 3, 1) := by decide +kernel
theorem dL_refused_449 : decode cL_refused 449 = .ok (.ifCond .le 222, 3) := by decide +kernel
theorem dL_refused_452 : decode cL_refused 452 = .ok (.iload 4, 2) := by decide +kernel
theorem dL_refused_454 : decode cL_refused 454 = .ok (.ifCond .le 217, 3) := by decide +kernel
theorem dL_refused_457 : decode cL_refused 457 = .ok (.iload 6, 2) := by decide +kernel
theorem dL_refused_459 : decode cL_refused 459 = .ok (.ifCond .eq 108, 3) := by decide +kernel
theorem dL_refused_462 : decode cL_refused 462 = .ok (.aload_n 0, 1) := by decide +kernel
theorem dL_refused_463 : decode cL_refused 463 = .ok (.iconst 0, 1) := by decide +kernel
theorem dL_refused_464 : decode cL_refused 464 = .ok (.iconst 0, 1) := by decide +kernel
theorem dL_refused_465 : decode cL_refused 465 = .ok (.iconst 0, 1) := by decide +kernel
theorem dL_refused_466 : decode cL_refused 466 = .ok (.invokevirtual 56, 3) := by decide +kernel
theorem dL_refused_469 : decode cL_refused 469 = .ok (.iconst (-1), 1) := by decide +kernel
theorem dL_refused_470 : decode cL_refused 470 = .ok (.if_icmp .ne 97, 3) := by decide +kernel
theorem dL_refused_473 : decode cL_refused 473 = .ok (.aload_n 0, 1) := by decide +kernel
theorem dL_refused_474 : decode cL_refused 474 = .ok (.iconst 0, 1) := by decide +kernel
theorem dL_refused_475 : decode cL_refused 475 = .ok (.iconst 0, 1) := by decide +kernel
theorem dL_refused_476 : decode cL_refused 476 = .ok (.sipush 10000, 3) := by decide +kernel
theorem dL_refused_479 : decode cL_refused 479 = .ok (.invokevirtual 56, 3) := by decide +kernel
theorem dL_refused_482 : decode cL_refused 482 = .ok (.iconst (-1), 1) := by decide +kernel
theorem dL_refused_483 : decode cL_refused 483 = .ok (.if_icmp .ne 84, 3) := by decide +kernel
theorem dL_refused_486 : decode cL_refused 486 = .ok (.aload_n 0, 1) := by decide +kernel
theorem dL_refused_487 : decode cL_refused 487 = .ok (.iconst 0, 1) := by decide +kernel
theorem dL_refused_488 : decode cL_refused 488 = .ok (.iconst 0, 1) := by decide +kernel
theorem dL_refused_489 : decode cL_refused 489 = .ok (.iconst 0, 1) := by decide +kernel
theorem dL_refused_490 : decode cL_refused 490 = .ok (.invokevirtual 60, 3) := by decide +kernel
theorem dL_refused_493 : decode cL_refused 493 = .ok (.iconst (-1), 1) := by decide +kernel
theorem dL_refused_494 : decode cL_refused 494 = .ok (.if_icmp .ne 73, 3) := by decide +kernel
theorem dL_refused_497 : decode cL_refused 497 = .ok (.aload_n 0, 1) := by decide +kernel
theorem dL_refused_498 : decode cL_refused 498 = .ok (.iconst 0, 1) := by decide +kernel
theorem dL_refused_499 : decode cL_refused 499 = .ok (.iconst 0, 1) := by decide +kernel
theorem dL_refused_500 : decode cL_refused 500 = .ok (.iconst 1, 1) := by decide +kernel
theorem dL_refused_501 : decode cL_refused 501 = .ok (.bipush 10, 2) := by decide +kernel
theorem dL_refused_503 : decode cL_refused 503 = .ok (.invokevirtual 66, 3) := by decide +kernel
theorem dL_refused_506 : decode cL_refused 506 = .ok (.iconst (-1), 1) := by decide +kernel
theorem dL_refused_507 : decode cL_refused 507 = .ok (.if_icmp .ne 60, 3) := by decide +kernel
theorem dL_refused_510 : decode cL_refused 510 = .ok (.aload_n 0, 1) := by decide +kernel
theorem dL_refused_511 : decode cL_refused 511 = .ok (.iconst 0, 1) := by decide +kernel
theorem dL_refused_512 : decode cL_refused 512 = .ok (.bipush 12, 2) := by decide +kernel
theorem dL_refused_514 : decode cL_refused 514 = .ok (.invokevirtual 21, 3) := by decide +kernel
theorem dL_refused_517 : decode cL_refused 517 = .ok (.iconst (-1), 1) := by decide +kernel
theorem dL_refused_518 : decode cL_refused 518 = .ok (.if_icmp .ne 49, 3) := by decide +kernel
theorem dL_refused_521 : decode cL_refused 521 = .ok (.aload_n 0, 1) := by decide +kernel
theorem dL_refused_522 : decode cL_refused 522 = .ok (.iconst 0, 1) := by decide +kernel
theorem dL_refused_523 : decode cL_refused 523 = .ok (.bipush 7, 2) := by decide +kernel
theorem dL_refused_525 : decode cL_refused 525 = .ok (.invokevirtual 28, 3) := by decide +kernel
theorem dL_refused_528 : decode cL_refused 528 = .ok (.iconst (-1), 1) := by decide +kernel
theorem dL_refused_529 : decode cL_refused 529 = .ok (.if_icmp .ne 38, 3) := by decide +kernel
theorem dL_refused_532 : decode cL_refused 532 = .ok (.aload_n 0, 1) := by decide +kernel
theorem dL_refused_533 : decode cL_refused 533 = .ok (.iconst 0, 1) := by decide +kernel
theorem dL_refused_534 : decode cL_refused 534 = .ok (.iconst 0, 1) := by decide +kernel
theorem dL_refused_535 : decode cL_refused 535 = .ok (.invokevirtual 86, 3) := by decide +kernel
theorem dL_refused_538 : decode cL_refused 538 = .ok (.iconst (-1), 1) := by decide +kernel
theorem dL_refused_539 : decode cL_refused 539 = .ok (.if_icmp .ne 28, 3) := by decide +kernel
theorem dL_refused_542 : decode cL_refused 542 = .ok (.aload_n 0, 1) := by decide +kernel
theorem dL_refused_543 : decode cL_refused 543 = .ok (.iconst 0, 1) := by decide +kernel
theorem dL_refused_544 : decode cL_refused 544 = .ok (.ldc 95, 2) := by decide +kernel
theorem dL_refused_546 : decode cL_refused 546 = .ok (.invokevirtual 86, 3) := by decide +kernel
theorem dL_refused_549 : decode cL_refused 549 = .ok (.iconst (-1), 1) := by decide +kernel
theorem dL_refused_550 : decode cL_refused 550 = .ok (.if_icmp .ne 17, 3) := by decide +kernel
theorem dL_refused_553 : decode cL_refused 553 = .ok (.aload_n 0, 1) := by decide +kernel
theorem dL_refused_554 : decode cL_refused 554 = .ok (.iconst 0, 1) := by decide +kernel
theorem dL_refused_555 : decode cL_refused 555 = .ok (.iconst 0, 1) := by decide +kernel
theorem dL_refused_556 : decode cL_refused 556 = .ok (.invokevirtual 53, 3) := by decide +kernel
theorem dL_refused_559 : decode cL_refused 559 = .ok (.iconst (-1), 1) := by decide +kernel
theorem dL_refused_560 : decode cL_refused 560 = .ok (.if_icmp .ne 7, 3) := by decide +kernel
theorem dL_refused_563 : decode cL_refused 563 = .ok (.iconst 1, 1) := by decide +kernel
theorem dL_refused_564 : decode cL_refused 564 = .ok (.goto 4, 3) := by decide +kernel
theorem dL_refused_567 : decode cL_refused 567 = .ok (.iconst 0, 1) := by decide +kernel
theorem dL_refused_568 : decode cL_refused 568 = .ok (.istore 6, 2) := by decide +kernel
theorem dL_refused_570 : decode cL_refused 570 = .ok (.iload 6, 2) := by decide +kernel
theorem dL_refused_572 : decode cL_refused 572 = .ok (.ifCond .eq 96, 3) := by decide +kernel
theorem dL_refused_575 : decode cL_refused 575 = .ok (.aload_n 0, 1) := by decide +kernel
theorem dL_refused_576 : decode cL_refused 576 = .ok (.iconst 5, 1) := by decide +kernel
theorem dL_refused_577 : decode cL_refused 577 = .ok (.invokevirtual 13, 3) := by decide +kernel
theorem dL_refused_580 : decode cL_refused 580 = .ok (.ifCond .ne 59, 3) := by decide +kernel
theorem dL_refused_583 : decode cL_refused 583 = .ok (.aload_n 0, 1) := by decide +kernel
theorem dL_refused_584 : decode cL_refused 584 = .ok (.iconst 0, 1) := by decide +kernel
theorem dL_refused_585 : decode cL_refused 585 = .ok (.iconst 0, 1) := by decide +kernel
theorem dL_refused_586 : decode cL_refused 586 = .ok (.iconst 1, 1) := by decide +kernel
theorem dL_refused_587 : decode cL_refused 587 = .ok (.invokevirtual 56, 3) := by decide +kernel
theorem dL_refused_590 : decode cL_refused 590 = .ok (.bipush (-2), 2) := by decide +kernel
theorem dL_refused_592 : decode cL_refused 592 = .ok (.if_icmp .ne 76, 3) := by decide +kernel
theorem dL_refused_595 : decode cL_refused 595 = .ok (.aload_n 0, 1) := by decide +kernel
theorem dL_refused_596 : decode cL_refused 596 = .ok (.iconst 0, 1) := by decide +kernel
theorem dL_refused_597 : decode cL_refused 597 = .ok (.iconst 0, 1) := by decide +kernel
theorem dL_refused_598 : decode cL_refused 598 = .ok (.iconst 1, 1) := by decide +kernel
theorem dL_refused_599 : decode cL_refused 599 = .ok (.invokevirtual 63, 3) := by decide +kernel
theorem dL_refused_602 : decode cL_refused 602 = .ok (.bipush (-2), 2) := by decide +kernel
theorem dL_refused_604 : decode cL_refused 604 = .ok (.if_icmp .ne 64, 3) := by decide +kernel
theorem dL_refused_607 : decode cL_refused 607 = .ok (.aload_n 0, 1) := by decide +kernel
theorem dL_refused_608 : decode cL_refused 608 = .ok (.iconst 0, 1) := by decide +kernel
theorem dL_refused_609 : decode cL_refused 609 = .ok (.invokevirtual 73, 3) := by decide +kernel
theorem dL_refused_612 : decode cL_refused 612 = .ok (.bipush (-2), 2) := by decide +kernel
theorem dL_refused_614 : decode cL_refused 614 = .ok (.if_icmp .ne 54, 3) := by decide +kernel
theorem dL_refused_617 : decode cL_refused 617 = .ok (.aload_n 0, 1) := by decide +kernel
theorem dL_refused_618 : decode cL_refused 618 = .ok (.iconst 0, 1) := by decide +kernel
theorem dL_refused_619 : decode cL_refused 619 = .ok (.invokevirtual 70, 3) := by decide +kernel
theorem dL_refused_622 : decode cL_refused 622 = .ok (.bipush (-2), 2) := by decide +kernel
theorem dL_refused_624 : decode cL_refused 624 = .ok (.if_icmp .ne 44, 3) := by decide +kernel
theorem dL_refused_627 : decode cL_refused 627 = .ok (.aload_n 0, 1) := by decide +kernel
theorem dL_refused_628 : decode cL_refused 628 = .ok (.invokevirtual 96, 3) := by decide +kernel
theorem dL_refused_631 : decode cL_refused 631 = .ok (.bipush (-2), 2) := by decide +kernel
theorem dL_refused_633 : decode cL_refused 633 = .ok (.if_icmp .ne 35, 3) := by decide +kernel
theorem dL_refused_636 : decode cL_refused 636 = .ok (.goto 28, 3) := by decide +kernel
theorem dL_refused_639 : decode cL_refused 639 = .ok (.aload_n 0, 1) := by decide +kernel
theorem dL_refused_640 : decode cL_refused 640 = .ok (.iconst 0, 1) := by decide +kernel
theorem dL_refused_641 : decode cL_refused 641 = .ok (.iconst 0, 1) := by decide +kernel
theorem dL_refused_642 : decode cL_refused 642 = .ok (.iconst 1, 1) := by decide +kernel
theorem dL_refused_643 : decode cL_refused 643 = .ok (.invokevirtual 60, 3) := by decide +kernel
theorem dL_refused_646 : decode cL_refused 646 = .ok (.bipush (-2), 2) := by decide +kernel
theorem dL_refused_648 : decode cL_refused 648 = .ok (.if_icmp .ne 20, 3) := by decide +kernel
theorem dL_refused_651 : decode cL_refused 651 = .ok (.aload_n 0, 1) := by decide +kernel
theorem dL_refused_652 : decode cL_refused 652 = .ok (.iconst 0, 1) := by decide +kernel
theorem dL_refused_653 : decode cL_refused 653 = .ok (.iconst 0, 1) := by decide +kernel
theorem dL_refused_654 : decode cL_refused 654 = .ok (.iconst 1, 1) := by decide +kernel
theorem dL_refused_655 : decode cL_refused 655 = .ok (.iconst 0, 1) := by decide +kernel
theorem dL_refused_656 : decode cL_refused 656 = .ok (.invokevirtual 66, 3) := by decide +kernel
theorem dL_refused_659 : decode cL_refused 659 = .ok (.bipush (-2), 2) := by decide +kernel
theorem dL_refused_661 : decode cL_refused 661 = .ok (.if_icmp .ne 7, 3) := by decide +kernel
theorem dL_refused_664 : decode cL_refused 664 = .ok (.iconst 1, 1) := by decide +kernel
theorem dL_refused_665 : decode cL_refused 665 = .ok (.goto 4, 3) := by decide +kernel
theorem dL_refused_668 : decode cL_refused 668 = .ok (.iconst 0, 1) := by decide +kernel
theorem dL_refused_669 : decode cL_refused 669 = .ok (.istore 6, 2) := by decide +kernel
theorem dL_refused_671 : decode cL_refused 671 = .ok (.iload 6, 2) := by decide +kernel
