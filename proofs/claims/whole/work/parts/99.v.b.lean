/-! the law's instructions -/
theorem dLw_457 : decode code 457 = .ok (.iconst 1, 1) := by decide +kernel
theorem dLw_458 : decode code 458 = .ok (.iadd, 1) := by decide +kernel
theorem dLw_459 : decode code 459 = .ok (.iaload, 1) := by decide +kernel
theorem dLw_460 : decode code 460 = .ok (.aload_n 0, 1) := by decide +kernel
theorem dLw_461 : decode code 461 = .ok (.iload 4, 2) := by decide +kernel
theorem dLw_463 : decode code 463 = .ok (.iconst 2, 1) := by decide +kernel
theorem dLw_464 : decode code 464 = .ok (.iadd, 1) := by decide +kernel
theorem dLw_465 : decode code 465 = .ok (.iaload, 1) := by decide +kernel
theorem dLw_466 : decode code 466 = .ok (.invokevirtual 55, 3) := by decide +kernel
theorem dLw_469 : decode code 469 = .ok (.if_icmp .eq 873, 3) := by decide +kernel
theorem dLw_472 : decode code 472 = .ok (.iconst 0, 1) := by decide +kernel
theorem dLw_473 : decode code 473 = .ok (.ireturn, 1) := by decide +kernel
theorem dLw_474 : decode code 474 = .ok (.aload_n 1, 1) := by decide +kernel
theorem dLw_475 : decode code 475 = .ok (.aload_n 0, 1) := by decide +kernel
theorem dLw_476 : decode code 476 = .ok (.iload 4, 2) := by decide +kernel
theorem dLw_478 : decode code 478 = .ok (.iconst 1, 1) := by decide +kernel
theorem dLw_479 : decode code 479 = .ok (.iadd, 1) := by decide +kernel
theorem dLw_480 : decode code 480 = .ok (.iaload, 1) := by decide +kernel
theorem dLw_481 : decode code 481 = .ok (.invokevirtual 56, 3) := by decide +kernel
theorem dLw_484 : decode code 484 = .ok (.aload_n 2, 1) := by decide +kernel
theorem dLw_485 : decode code 485 = .ok (.aload_n 0, 1) := by decide +kernel
theorem dLw_486 : decode code 486 = .ok (.iload 4, 2) := by decide +kernel
theorem dLw_488 : decode code 488 = .ok (.iconst 1, 1) := by decide +kernel
theorem dLw_489 : decode code 489 = .ok (.iadd, 1) := by decide +kernel
theorem dLw_490 : decode code 490 = .ok (.iaload, 1) := by decide +kernel
theorem dLw_491 : decode code 491 = .ok (.invokevirtual 59, 3) := by decide +kernel
theorem dLw_494 : decode code 494 = .ok (.if_icmp .eq 848, 3) := by decide +kernel
theorem dLw_497 : decode code 497 = .ok (.iconst 0, 1) := by decide +kernel
theorem dLw_498 : decode code 498 = .ok (.ireturn, 1) := by decide +kernel
theorem dLw_499 : decode code 499 = .ok (.aload_n 1, 1) := by decide +kernel
theorem dLw_500 : decode code 500 = .ok (.aload_n 0, 1) := by decide +kernel
theorem dLw_501 : decode code 501 = .ok (.iload 4, 2) := by decide +kernel
theorem dLw_503 : decode code 503 = .ok (.iconst 1, 1) := by decide +kernel
theorem dLw_504 : decode code 504 = .ok (.iadd, 1) := by decide +kernel
theorem dLw_505 : decode code 505 = .ok (.iaload, 1) := by decide +kernel
theorem dLw_506 : decode code 506 = .ok (.invokevirtual 60, 3) := by decide +kernel
theorem dLw_509 : decode code 509 = .ok (.aload_n 2, 1) := by decide +kernel
theorem dLw_510 : decode code 510 = .ok (.aload_n 0, 1) := by decide +kernel
theorem dLw_511 : decode code 511 = .ok (.iload 4, 2) := by decide +kernel
theorem dLw_513 : decode code 513 = .ok (.iconst 1, 1) := by decide +kernel
theorem dLw_514 : decode code 514 = .ok (.iadd, 1) := by decide +kernel
theorem dLw_515 : decode code 515 = .ok (.iaload, 1) := by decide +kernel
theorem dLw_516 : decode code 516 = .ok (.invokevirtual 63, 3) := by decide +kernel
theorem dLw_519 : decode code 519 = .ok (.if_icmp .eq 823, 3) := by decide +kernel
theorem dLw_522 : decode code 522 = .ok (.iconst 0, 1) := by decide +kernel
theorem dLw_523 : decode code 523 = .ok (.ireturn, 1) := by decide +kernel
theorem dLw_524 : decode code 524 = .ok (.aload_n 1, 1) := by decide +kernel
theorem dLw_525 : decode code 525 = .ok (.aload_n 0, 1) := by decide +kernel
theorem dLw_526 : decode code 526 = .ok (.iload 4, 2) := by decide +kernel
theorem dLw_528 : decode code 528 = .ok (.iconst 1, 1) := by decide +kernel
theorem dLw_529 : decode code 529 = .ok (.iadd, 1) := by decide +kernel
theorem dLw_530 : decode code 530 = .ok (.iaload, 1) := by decide +kernel
theorem dLw_531 : decode code 531 = .ok (.aload_n 0, 1) := by decide +kernel
theorem dLw_532 : decode code 532 = .ok (.iload 4, 2) := by decide +kernel
theorem dLw_534 : decode code 534 = .ok (.iconst 2, 1) := by decide +kernel
theorem dLw_535 : decode code 535 = .ok (.iadd, 1) := by decide +kernel
theorem dLw_536 : decode code 536 = .ok (.iaload, 1) := by decide +kernel
theorem dLw_537 : decode code 537 = .ok (.invokevirtual 64, 3) := by decide +kernel
theorem dLw_540 : decode code 540 = .ok (.aload_n 2, 1) := by decide +kernel
theorem dLw_541 : decode code 541 = .ok (.aload_n 0, 1) := by decide +kernel
theorem dLw_542 : decode code 542 = .ok (.iload 4, 2) := by decide +kernel
theorem dLw_544 : decode code 544 = .ok (.iconst 1, 1) := by decide +kernel
theorem dLw_545 : decode code 545 = .ok (.iadd, 1) := by decide +kernel
theorem dLw_546 : decode code 546 = .ok (.iaload, 1) := by decide +kernel
theorem dLw_547 : decode code 547 = .ok (.aload_n 0, 1) := by decide +kernel
theorem dLw_548 : decode code 548 = .ok (.iload 4, 2) := by decide +kernel
theorem dLw_550 : decode code 550 = .ok (.iconst 2, 1) := by decide +kernel
theorem dLw_551 : decode code 551 = .ok (.iadd, 1) := by decide +kernel
theorem dLw_552 : decode code 552 = .ok (.iaload, 1) := by decide +kernel
theorem dLw_553 : decode code 553 = .ok (.invokevirtual 67, 3) := by decide +kernel
theorem dLw_556 : decode code 556 = .ok (.if_icmp .eq 786, 3) := by decide +kernel
theorem dLw_559 : decode code 559 = .ok (.iconst 0, 1) := by decide +kernel
theorem dLw_560 : decode code 560 = .ok (.ireturn, 1) := by decide +kernel
theorem dLw_561 : decode code 561 = .ok (.aload_n 1, 1) := by decide +kernel
theorem dLw_562 : decode code 562 = .ok (.aload_n 0, 1) := by decide +kernel
theorem dLw_563 : decode code 563 = .ok (.iload 4, 2) := by decide +kernel
theorem dLw_565 : decode code 565 = .ok (.iconst 1, 1) := by decide +kernel
theorem dLw_566 : decode code 566 = .ok (.iadd, 1) := by decide +kernel
theorem dLw_567 : decode code 567 = .ok (.iaload, 1) := by decide +kernel
theorem dLw_568 : decode code 568 = .ok (.invokevirtual 68, 3) := by decide +kernel
theorem dLw_571 : decode code 571 = .ok (.aload_n 2, 1) := by decide +kernel
theorem dLw_572 : decode code 572 = .ok (.aload_n 0, 1) := by decide +kernel
theorem dLw_573 : decode code 573 = .ok (.iload 4, 2) := by decide +kernel
theorem dLw_575 : decode code 575 = .ok (.iconst 1, 1) := by decide +kernel
theorem dLw_576 : decode code 576 = .ok (.iadd, 1) := by decide +kernel
theorem dLw_577 : decode code 577 = .ok (.iaload, 1) := by decide +kernel
theorem dLw_578 : decode code 578 = .ok (.invokevirtual 71, 3) := by decide +kernel
theorem dLw_581 : decode code 581 = .ok (.if_icmp .eq 761, 3) := by decide +kernel
theorem dLw_584 : decode code 584 = .ok (.iconst 0, 1) := by decide +kernel
theorem dLw_585 : decode code 585 = .ok (.ireturn, 1) := by decide +kernel
theorem dLw_586 : decode code 586 = .ok (.aload_n 1, 1) := by decide +kernel
theorem dLw_587 : decode code 587 = .ok (.aload_n 0, 1) := by decide +kernel
theorem dLw_588 : decode code 588 = .ok (.iload 4, 2) := by decide +kernel
theorem dLw_590 : decode code 590 = .ok (.iconst 1, 1) := by decide +kernel
theorem dLw_591 : decode code 591 = .ok (.iadd, 1) := by decide +kernel
theorem dLw_592 : decode code 592 = .ok (.iaload, 1) := by decide +kernel
theorem dLw_593 : decode code 593 = .ok (.invokevirtual 72, 3) := by decide +kernel
theorem dLw_596 : decode code 596 = .ok (.aload_n 2, 1) := by decide +kernel
theorem dLw_597 : decode code 597 = .ok (.aload_n 0, 1) := by decide +kernel
theorem dLw_598 : decode code 598 = .ok (.iload 4, 2) := by decide +kernel
theorem dLw_600 : decode code 600 = .ok (.iconst 1, 1) := by decide +kernel
theorem dLw_601 : decode code 601 = .ok (.iadd, 1) := by decide +kernel
theorem dLw_602 : decode code 602 = .ok (.iaload, 1) := by decide +kernel
theorem dLw_603 : decode code 603 = .ok (.invokevirtual 75, 3) := by decide +kernel
theorem dLw_606 : decode code 606 = .ok (.if_icmp .eq 736, 3) := by decide +kernel
theorem dLw_609 : decode code 609 = .ok (.iconst 0, 1) := by decide +kernel
theorem dLw_610 : decode code 610 = .ok (.ireturn, 1) := by decide +kernel
theorem dLw_611 : decode code 611 = .ok (.aload_n 1, 1) := by decide +kernel
theorem dLw_612 : decode code 612 = .ok (.aload_n 0, 1) := by decide +kernel
theorem dLw_613 : decode code 613 = .ok (.iload 4, 2) := by decide +kernel
theorem dLw_615 : decode code 615 = .ok (.iconst 1, 1) := by decide +kernel
theorem dLw_616 : decode code 616 = .ok (.iadd, 1) := by decide +kernel
theorem dLw_617 : decode code 617 = .ok (.iaload, 1) := by decide +kernel
theorem dLw_618 : decode code 618 = .ok (.invokevirtual 76, 3) := by decide +kernel
theorem dLw_621 : decode code 621 = .ok (.aload_n 2, 1) := by decide +kernel
theorem dLw_622 : decode code 622 = .ok (.aload_n 0, 1) := by decide +kernel
theorem dLw_623 : decode code 623 = .ok (.iload 4, 2) := by decide +kernel
theorem dLw_625 : decode code 625 = .ok (.iconst 1, 1) := by decide +kernel
theorem dLw_626 : decode code 626 = .ok (.iadd, 1) := by decide +kernel
theorem dLw_627 : decode code 627 = .ok (.iaload, 1) := by decide +kernel
theorem dLw_628 : decode code 628 = .ok (.invokevirtual 79, 3) := by decide +kernel
theorem dLw_631 : decode code 631 = .ok (.if_icmp .eq 711, 3) := by decide +kernel
theorem dLw_634 : decode code 634 = .ok (.iconst 0, 1) := by decide +kernel
theorem dLw_635 : decode code 635 = .ok (.ireturn, 1) := by decide +kernel
theorem dLw_636 : decode code 636 = .ok (.aload_n 1, 1) := by decide +kernel
theorem dLw_637 : decode code 637 = .ok (.aload_n 0, 1) := by decide +kernel
theorem dLw_638 : decode code 638 = .ok (.iload 4, 2) := by decide +kernel
theorem dLw_640 : decode code 640 = .ok (.iconst 1, 1) := by decide +kernel
theorem dLw_641 : decode code 641 = .ok (.iadd, 1) := by decide +kernel
theorem dLw_642 : decode code 642 = .ok (.iaload, 1) := by decide +kernel
theorem dLw_643 : decode code 643 = .ok (.invokevirtual 80, 3) := by decide +kernel
theorem dLw_646 : decode code 646 = .ok (.aload_n 2, 1) := by decide +kernel
theorem dLw_647 : decode code 647 = .ok (.aload_n 0, 1) := by decide +kernel
theorem dLw_648 : decode code 648 = .ok (.iload 4, 2) := by decide +kernel
theorem dLw_650 : decode code 650 = .ok (.iconst 1, 1) := by decide +kernel
theorem dLw_651 : decode code 651 = .ok (.iadd, 1) := by decide +kernel
theorem dLw_652 : decode code 652 = .ok (.iaload, 1) := by decide +kernel
theorem dLw_653 : decode code 653 = .ok (.invokevirtual 83, 3) := by decide +kernel
theorem dLw_656 : decode code 656 = .ok (.if_icmp .eq 686, 3) := by decide +kernel
theorem dLw_659 : decode code 659 = .ok (.iconst 0, 1) := by decide +kernel
theorem dLw_660 : decode code 660 = .ok (.ireturn, 1) := by decide +kernel
theorem dLw_661 : decode code 661 = .ok (.aload_n 1, 1) := by decide +kernel
theorem dLw_662 : decode code 662 = .ok (.aload_n 0, 1) := by decide +kernel
theorem dLw_663 : decode code 663 = .ok (.iload 4, 2) := by decide +kernel
theorem dLw_665 : decode code 665 = .ok (.iconst 1, 1) := by decide +kernel
theorem dLw_666 : decode code 666 = .ok (.iadd, 1) := by decide +kernel
theorem dLw_667 : decode code 667 = .ok (.iaload, 1) := by decide +kernel
theorem dLw_668 : decode code 668 = .ok (.aload_n 0, 1) := by decide +kernel
theorem dLw_669 : decode code 669 = .ok (.iload 4, 2) := by decide +kernel
theorem dLw_671 : decode code 671 = .ok (.iconst 2, 1) := by decide +kernel
theorem dLw_672 : decode code 672 = .ok (.iadd, 1) := by decide +kernel
theorem dLw_673 : decode code 673 = .ok (.iaload, 1) := by decide +kernel
theorem dLw_674 : decode code 674 = .ok (.i2l, 1) := by decide +kernel
theorem dLw_675 : decode code 675 = .ok (.bipush 32, 2) := by decide +kernel
theorem dLw_677 : decode code 677 = .ok (.lshl, 1) := by decide +kernel
theorem dLw_678 : decode code 678 = .ok (.aload_n 0, 1) := by decide +kernel
theorem dLw_679 : decode code 679 = .ok (.iload 4, 2) := by decide +kernel
theorem dLw_681 : decode code 681 = .ok (.iconst 3, 1) := by decide +kernel
theorem dLw_682 : decode code 682 = .ok (.iadd, 1) := by decide +kernel
theorem dLw_683 : decode code 683 = .ok (.iaload, 1) := by decide +kernel
theorem dLw_684 : decode code 684 = .ok (.i2l, 1) := by decide +kernel
theorem dLw_685 : decode code 685 = .ok (.ldc2_w 84, 3) := by decide +kernel
theorem dLw_688 : decode code 688 = .ok (.land, 1) := by decide +kernel
theorem dLw_689 : decode code 689 = .ok (.lor, 1) := by decide +kernel
theorem dLw_690 : decode code 690 = .ok (.invokevirtual 86, 3) := by decide +kernel
theorem dLw_693 : decode code 693 = .ok (.aload_n 2, 1) := by decide +kernel
theorem dLw_694 : decode code 694 = .ok (.aload_n 0, 1) := by decide +kernel
theorem dLw_695 : decode code 695 = .ok (.iload 4, 2) := by decide +kernel
theorem dLw_697 : decode code 697 = .ok (.iconst 1, 1) := by decide +kernel
theorem dLw_698 : decode code 698 = .ok (.iadd, 1) := by decide +kernel
theorem dLw_699 : decode code 699 = .ok (.iaload, 1) := by decide +kernel
theorem dLw_700 : decode code 700 = .ok (.aload_n 0, 1) := by decide +kernel
theorem dLw_701 : decode code 701 = .ok (.iload 4, 2) := by decide +kernel
theorem dLw_703 : decode code 703 = .ok (.iconst 2, 1) := by decide +kernel
theorem dLw_704 : decode code 704 = .ok (.iadd, 1) := by decide +kernel
theorem dLw_705 : decode code 705 = .ok (.iaload, 1) := by decide +kernel
theorem dLw_706 : decode code 706 = .ok (.i2l, 1) := by decide +kernel
theorem dLw_707 : decode code 707 = .ok (.bipush 32, 2) := by decide +kernel
theorem dLw_709 : decode code 709 = .ok (.lshl, 1) := by decide +kernel
theorem dLw_710 : decode code 710 = .ok (.aload_n 0, 1) := by decide +kernel
theorem dLw_711 : decode code 711 = .ok (.iload 4, 2) := by decide +kernel
theorem dLw_713 : decode code 713 = .ok (.iconst 3, 1) := by decide +kernel
theorem dLw_714 : decode code 714 = .ok (.iadd, 1) := by decide +kernel
theorem dLw_715 : decode code 715 = .ok (.iaload, 1) := by decide +kernel
theorem dLw_716 : decode code 716 = .ok (.i2l, 1) := by decide +kernel
theorem dLw_717 : decode code 717 = .ok (.ldc2_w 84, 3) := by decide +kernel
theorem dLw_720 : decode code 720 = .ok (.land, 1) := by decide +kernel
theorem dLw_721 : decode code 721 = .ok (.lor, 1) := by decide +kernel
theorem dLw_722 : decode code 722 = .ok (.invokevirtual 90, 3) := by decide +kernel
theorem dLw_725 : decode code 725 = .ok (.if_icmp .eq 617, 3) := by decide +kernel
theorem dLw_728 : decode code 728 = .ok (.iconst 0, 1) := by decide +kernel
theorem dLw_729 : decode code 729 = .ok (.ireturn, 1) := by decide +kernel
theorem dLw_730 : decode code 730 = .ok (.aload_n 1, 1) := by decide +kernel
theorem dLw_731 : decode code 731 = .ok (.aload_n 0, 1) := by decide +kernel
theorem dLw_732 : decode code 732 = .ok (.iload 4, 2) := by decide +kernel
theorem dLw_734 : decode code 734 = .ok (.iconst 1, 1) := by decide +kernel
theorem dLw_735 : decode code 735 = .ok (.iadd, 1) := by decide +kernel
theorem dLw_736 : decode code 736 = .ok (.iaload, 1) := by decide +kernel
theorem dLw_737 : decode code 737 = .ok (.invokevirtual 91, 3) := by decide +kernel
theorem dLw_740 : decode code 740 = .ok (.aload_n 2, 1) := by decide +kernel
theorem dLw_741 : decode code 741 = .ok (.aload_n 0, 1) := by decide +kernel
theorem dLw_742 : decode code 742 = .ok (.iload 4, 2) := by decide +kernel
theorem dLw_744 : decode code 744 = .ok (.iconst 1, 1) := by decide +kernel
theorem dLw_745 : decode code 745 = .ok (.iadd, 1) := by decide +kernel
theorem dLw_746 : decode code 746 = .ok (.iaload, 1) := by decide +kernel
theorem dLw_747 : decode code 747 = .ok (.invokevirtual 94, 3) := by decide +kernel
theorem dLw_750 : decode code 750 = .ok (.if_icmp .eq 592, 3) := by decide +kernel
theorem dLw_753 : decode code 753 = .ok (.iconst 0, 1) := by decide +kernel
theorem dLw_754 : decode code 754 = .ok (.ireturn, 1) := by decide +kernel
theorem dLw_755 : decode code 755 = .ok (.aload_n 1, 1) := by decide +kernel
