/-! decode rows of the law -/
theorem d_L_law_464 : decode code 464 = .ok (.iaload, 1) := by decide +kernel
theorem d_L_law_465 : decode code 465 = .ok (.aload_n 3, 1) := by decide +kernel
theorem d_L_law_466 : decode code 466 = .ok (.invokestatic 124, 3) := by decide +kernel
theorem d_L_law_469 : decode code 469 = .ok (.istore 5, 2) := by decide +kernel
theorem d_L_law_471 : decode code 471 = .ok (.aload_n 2, 1) := by decide +kernel
theorem d_L_law_472 : decode code 472 = .ok (.aload_n 0, 1) := by decide +kernel
theorem d_L_law_473 : decode code 473 = .ok (.iload 4, 2) := by decide +kernel
theorem d_L_law_475 : decode code 475 = .ok (.iconst 1, 1) := by decide +kernel
theorem d_L_law_476 : decode code 476 = .ok (.iadd, 1) := by decide +kernel
theorem d_L_law_477 : decode code 477 = .ok (.iaload, 1) := by decide +kernel
theorem d_L_law_478 : decode code 478 = .ok (.aload_n 0, 1) := by decide +kernel
theorem d_L_law_479 : decode code 479 = .ok (.iload 4, 2) := by decide +kernel
theorem d_L_law_481 : decode code 481 = .ok (.iconst 2, 1) := by decide +kernel
theorem d_L_law_482 : decode code 482 = .ok (.iadd, 1) := by decide +kernel
theorem d_L_law_483 : decode code 483 = .ok (.iaload, 1) := by decide +kernel
theorem d_L_law_484 : decode code 484 = .ok (.aload_n 0, 1) := by decide +kernel
theorem d_L_law_485 : decode code 485 = .ok (.iload 4, 2) := by decide +kernel
theorem d_L_law_487 : decode code 487 = .ok (.iconst 3, 1) := by decide +kernel
theorem d_L_law_488 : decode code 488 = .ok (.iadd, 1) := by decide +kernel
theorem d_L_law_489 : decode code 489 = .ok (.iaload, 1) := by decide +kernel
theorem d_L_law_490 : decode code 490 = .ok (.aload_n 0, 1) := by decide +kernel
theorem d_L_law_491 : decode code 491 = .ok (.iload 4, 2) := by decide +kernel
theorem d_L_law_493 : decode code 493 = .ok (.iconst 4, 1) := by decide +kernel
theorem d_L_law_494 : decode code 494 = .ok (.iadd, 1) := by decide +kernel
theorem d_L_law_495 : decode code 495 = .ok (.iaload, 1) := by decide +kernel
theorem d_L_law_496 : decode code 496 = .ok (.invokevirtual 127, 3) := by decide +kernel
theorem d_L_law_499 : decode code 499 = .ok (.istore 6, 2) := by decide +kernel
theorem d_L_law_501 : decode code 501 = .ok (.aload_n 2, 1) := by decide +kernel
theorem d_L_law_502 : decode code 502 = .ok (.invokevirtual 102, 3) := by decide +kernel
theorem d_L_law_505 : decode code 505 = .ok (.iload 5, 2) := by decide +kernel
theorem d_L_law_507 : decode code 507 = .ok (.if_icmp .eq 5, 3) := by decide +kernel
theorem d_L_law_510 : decode code 510 = .ok (.iconst 0, 1) := by decide +kernel
theorem d_L_law_511 : decode code 511 = .ok (.ireturn, 1) := by decide +kernel
theorem d_L_law_512 : decode code 512 = .ok (.iload 5, 2) := by decide +kernel
theorem d_L_law_514 : decode code 514 = .ok (.ifCond .ne 15, 3) := by decide +kernel
theorem d_L_law_517 : decode code 517 = .ok (.aload_n 3, 1) := by decide +kernel
theorem d_L_law_518 : decode code 518 = .ok (.iconst 0, 1) := by decide +kernel
theorem d_L_law_519 : decode code 519 = .ok (.laload, 1) := by decide +kernel
theorem d_L_law_520 : decode code 520 = .ok (.iload 6, 2) := by decide +kernel
theorem d_L_law_522 : decode code 522 = .ok (.i2l, 1) := by decide +kernel
theorem d_L_law_523 : decode code 523 = .ok (.lcmp, 1) := by decide +kernel
theorem d_L_law_524 : decode code 524 = .ok (.ifCond .eq 5, 3) := by decide +kernel
theorem d_L_law_527 : decode code 527 = .ok (.iconst 0, 1) := by decide +kernel
theorem d_L_law_528 : decode code 528 = .ok (.ireturn, 1) := by decide +kernel
theorem d_L_law_529 : decode code 529 = .ok (.goto 1006, 3) := by decide +kernel
theorem d_L_law_532 : decode code 532 = .ok (.aload_n 1, 1) := by decide +kernel
theorem d_L_law_533 : decode code 533 = .ok (.aload_n 0, 1) := by decide +kernel
theorem d_L_law_534 : decode code 534 = .ok (.iload 4, 2) := by decide +kernel
theorem d_L_law_536 : decode code 536 = .ok (.iconst 1, 1) := by decide +kernel
theorem d_L_law_537 : decode code 537 = .ok (.iadd, 1) := by decide +kernel
theorem d_L_law_538 : decode code 538 = .ok (.iaload, 1) := by decide +kernel
theorem d_L_law_539 : decode code 539 = .ok (.invokestatic 128, 3) := by decide +kernel
theorem d_L_law_542 : decode code 542 = .ok (.istore 5, 2) := by decide +kernel
theorem d_L_law_544 : decode code 544 = .ok (.aload_n 2, 1) := by decide +kernel
theorem d_L_law_545 : decode code 545 = .ok (.aload_n 0, 1) := by decide +kernel
theorem d_L_law_546 : decode code 546 = .ok (.iload 4, 2) := by decide +kernel
theorem d_L_law_548 : decode code 548 = .ok (.iconst 1, 1) := by decide +kernel
theorem d_L_law_549 : decode code 549 = .ok (.iadd, 1) := by decide +kernel
theorem d_L_law_550 : decode code 550 = .ok (.iaload, 1) := by decide +kernel
theorem d_L_law_551 : decode code 551 = .ok (.invokevirtual 130, 3) := by decide +kernel
theorem d_L_law_554 : decode code 554 = .ok (.aload_n 2, 1) := by decide +kernel
theorem d_L_law_555 : decode code 555 = .ok (.invokevirtual 102, 3) := by decide +kernel
theorem d_L_law_558 : decode code 558 = .ok (.iload 5, 2) := by decide +kernel
theorem d_L_law_560 : decode code 560 = .ok (.if_icmp .eq 5, 3) := by decide +kernel
theorem d_L_law_563 : decode code 563 = .ok (.iconst 0, 1) := by decide +kernel
theorem d_L_law_564 : decode code 564 = .ok (.ireturn, 1) := by decide +kernel
theorem d_L_law_565 : decode code 565 = .ok (.goto 970, 3) := by decide +kernel
theorem d_L_law_568 : decode code 568 = .ok (.aload_n 1, 1) := by decide +kernel
theorem d_L_law_569 : decode code 569 = .ok (.aload_n 0, 1) := by decide +kernel
theorem d_L_law_570 : decode code 570 = .ok (.iload 4, 2) := by decide +kernel
theorem d_L_law_572 : decode code 572 = .ok (.iconst 1, 1) := by decide +kernel
theorem d_L_law_573 : decode code 573 = .ok (.iadd, 1) := by decide +kernel
theorem d_L_law_574 : decode code 574 = .ok (.iaload, 1) := by decide +kernel
theorem d_L_law_575 : decode code 575 = .ok (.aload_n 3, 1) := by decide +kernel
theorem d_L_law_576 : decode code 576 = .ok (.invokestatic 131, 3) := by decide +kernel
theorem d_L_law_579 : decode code 579 = .ok (.istore 5, 2) := by decide +kernel
theorem d_L_law_581 : decode code 581 = .ok (.aload_n 2, 1) := by decide +kernel
theorem d_L_law_582 : decode code 582 = .ok (.aload_n 0, 1) := by decide +kernel
theorem d_L_law_583 : decode code 583 = .ok (.iload 4, 2) := by decide +kernel
theorem d_L_law_585 : decode code 585 = .ok (.iconst 1, 1) := by decide +kernel
theorem d_L_law_586 : decode code 586 = .ok (.iadd, 1) := by decide +kernel
theorem d_L_law_587 : decode code 587 = .ok (.iaload, 1) := by decide +kernel
theorem d_L_law_588 : decode code 588 = .ok (.invokevirtual 133, 3) := by decide +kernel
theorem d_L_law_591 : decode code 591 = .ok (.istore 6, 2) := by decide +kernel
theorem d_L_law_593 : decode code 593 = .ok (.aload_n 2, 1) := by decide +kernel
theorem d_L_law_594 : decode code 594 = .ok (.invokevirtual 102, 3) := by decide +kernel
theorem d_L_law_597 : decode code 597 = .ok (.iload 5, 2) := by decide +kernel
theorem d_L_law_599 : decode code 599 = .ok (.if_icmp .eq 5, 3) := by decide +kernel
theorem d_L_law_602 : decode code 602 = .ok (.iconst 0, 1) := by decide +kernel
theorem d_L_law_603 : decode code 603 = .ok (.ireturn, 1) := by decide +kernel
theorem d_L_law_604 : decode code 604 = .ok (.iload 5, 2) := by decide +kernel
theorem d_L_law_606 : decode code 606 = .ok (.ifCond .ne 15, 3) := by decide +kernel
theorem d_L_law_609 : decode code 609 = .ok (.aload_n 3, 1) := by decide +kernel
theorem d_L_law_610 : decode code 610 = .ok (.iconst 0, 1) := by decide +kernel
theorem d_L_law_611 : decode code 611 = .ok (.laload, 1) := by decide +kernel
theorem d_L_law_612 : decode code 612 = .ok (.iload 6, 2) := by decide +kernel
theorem d_L_law_614 : decode code 614 = .ok (.i2l, 1) := by decide +kernel
theorem d_L_law_615 : decode code 615 = .ok (.lcmp, 1) := by decide +kernel
theorem d_L_law_616 : decode code 616 = .ok (.ifCond .eq 5, 3) := by decide +kernel
theorem d_L_law_619 : decode code 619 = .ok (.iconst 0, 1) := by decide +kernel
theorem d_L_law_620 : decode code 620 = .ok (.ireturn, 1) := by decide +kernel
theorem d_L_law_621 : decode code 621 = .ok (.goto 914, 3) := by decide +kernel
theorem d_L_law_624 : decode code 624 = .ok (.aload_n 1, 1) := by decide +kernel
theorem d_L_law_625 : decode code 625 = .ok (.aload_n 0, 1) := by decide +kernel
theorem d_L_law_626 : decode code 626 = .ok (.iload 4, 2) := by decide +kernel
theorem d_L_law_628 : decode code 628 = .ok (.iconst 1, 1) := by decide +kernel
theorem d_L_law_629 : decode code 629 = .ok (.iadd, 1) := by decide +kernel
theorem d_L_law_630 : decode code 630 = .ok (.iaload, 1) := by decide +kernel
theorem d_L_law_631 : decode code 631 = .ok (.aload_n 0, 1) := by decide +kernel
theorem d_L_law_632 : decode code 632 = .ok (.iload 4, 2) := by decide +kernel
theorem d_L_law_634 : decode code 634 = .ok (.iconst 2, 1) := by decide +kernel
theorem d_L_law_635 : decode code 635 = .ok (.iadd, 1) := by decide +kernel
theorem d_L_law_636 : decode code 636 = .ok (.iaload, 1) := by decide +kernel
theorem d_L_law_637 : decode code 637 = .ok (.aload_n 0, 1) := by decide +kernel
theorem d_L_law_638 : decode code 638 = .ok (.iload 4, 2) := by decide +kernel
theorem d_L_law_640 : decode code 640 = .ok (.iconst 3, 1) := by decide +kernel
theorem d_L_law_641 : decode code 641 = .ok (.iadd, 1) := by decide +kernel
theorem d_L_law_642 : decode code 642 = .ok (.iaload, 1) := by decide +kernel
theorem d_L_law_643 : decode code 643 = .ok (.i2l, 1) := by decide +kernel
theorem d_L_law_644 : decode code 644 = .ok (.bipush 32, 2) := by decide +kernel
theorem d_L_law_646 : decode code 646 = .ok (.lshl, 1) := by decide +kernel
theorem d_L_law_647 : decode code 647 = .ok (.aload_n 0, 1) := by decide +kernel
theorem d_L_law_648 : decode code 648 = .ok (.iload 4, 2) := by decide +kernel
theorem d_L_law_650 : decode code 650 = .ok (.iconst 4, 1) := by decide +kernel
theorem d_L_law_651 : decode code 651 = .ok (.iadd, 1) := by decide +kernel
theorem d_L_law_652 : decode code 652 = .ok (.iaload, 1) := by decide +kernel
theorem d_L_law_653 : decode code 653 = .ok (.i2l, 1) := by decide +kernel
theorem d_L_law_654 : decode code 654 = .ok (.ldc2_w 134, 3) := by decide +kernel
theorem d_L_law_657 : decode code 657 = .ok (.land, 1) := by decide +kernel
theorem d_L_law_658 : decode code 658 = .ok (.lor, 1) := by decide +kernel
theorem d_L_law_659 : decode code 659 = .ok (.aload_n 3, 1) := by decide +kernel
theorem d_L_law_660 : decode code 660 = .ok (.invokestatic 136, 3) := by decide +kernel
theorem d_L_law_663 : decode code 663 = .ok (.istore 5, 2) := by decide +kernel
theorem d_L_law_665 : decode code 665 = .ok (.aload_n 2, 1) := by decide +kernel
theorem d_L_law_666 : decode code 666 = .ok (.aload_n 0, 1) := by decide +kernel
theorem d_L_law_667 : decode code 667 = .ok (.iload 4, 2) := by decide +kernel
theorem d_L_law_669 : decode code 669 = .ok (.iconst 1, 1) := by decide +kernel
theorem d_L_law_670 : decode code 670 = .ok (.iadd, 1) := by decide +kernel
theorem d_L_law_671 : decode code 671 = .ok (.iaload, 1) := by decide +kernel
theorem d_L_law_672 : decode code 672 = .ok (.aload_n 0, 1) := by decide +kernel
theorem d_L_law_673 : decode code 673 = .ok (.iload 4, 2) := by decide +kernel
theorem d_L_law_675 : decode code 675 = .ok (.iconst 2, 1) := by decide +kernel
theorem d_L_law_676 : decode code 676 = .ok (.iadd, 1) := by decide +kernel
theorem d_L_law_677 : decode code 677 = .ok (.iaload, 1) := by decide +kernel
theorem d_L_law_678 : decode code 678 = .ok (.aload_n 0, 1) := by decide +kernel
theorem d_L_law_679 : decode code 679 = .ok (.iload 4, 2) := by decide +kernel
theorem d_L_law_681 : decode code 681 = .ok (.iconst 3, 1) := by decide +kernel
theorem d_L_law_682 : decode code 682 = .ok (.iadd, 1) := by decide +kernel
theorem d_L_law_683 : decode code 683 = .ok (.iaload, 1) := by decide +kernel
theorem d_L_law_684 : decode code 684 = .ok (.i2l, 1) := by decide +kernel
theorem d_L_law_685 : decode code 685 = .ok (.bipush 32, 2) := by decide +kernel
theorem d_L_law_687 : decode code 687 = .ok (.lshl, 1) := by decide +kernel
theorem d_L_law_688 : decode code 688 = .ok (.aload_n 0, 1) := by decide +kernel
theorem d_L_law_689 : decode code 689 = .ok (.iload 4, 2) := by decide +kernel
theorem d_L_law_691 : decode code 691 = .ok (.iconst 4, 1) := by decide +kernel
theorem d_L_law_692 : decode code 692 = .ok (.iadd, 1) := by decide +kernel
theorem d_L_law_693 : decode code 693 = .ok (.iaload, 1) := by decide +kernel
theorem d_L_law_694 : decode code 694 = .ok (.i2l, 1) := by decide +kernel
theorem d_L_law_695 : decode code 695 = .ok (.ldc2_w 134, 3) := by decide +kernel
theorem d_L_law_698 : decode code 698 = .ok (.land, 1) := by decide +kernel
theorem d_L_law_699 : decode code 699 = .ok (.lor, 1) := by decide +kernel
theorem d_L_law_700 : decode code 700 = .ok (.invokevirtual 139, 3) := by decide +kernel
theorem d_L_law_703 : decode code 703 = .ok (.istore 6, 2) := by decide +kernel
theorem d_L_law_705 : decode code 705 = .ok (.aload_n 2, 1) := by decide +kernel
theorem d_L_law_706 : decode code 706 = .ok (.invokevirtual 102, 3) := by decide +kernel
theorem d_L_law_709 : decode code 709 = .ok (.iload 5, 2) := by decide +kernel
theorem d_L_law_711 : decode code 711 = .ok (.if_icmp .eq 5, 3) := by decide +kernel
theorem d_L_law_714 : decode code 714 = .ok (.iconst 0, 1) := by decide +kernel
theorem d_L_law_715 : decode code 715 = .ok (.ireturn, 1) := by decide +kernel
theorem d_L_law_716 : decode code 716 = .ok (.iload 5, 2) := by decide +kernel
theorem d_L_law_718 : decode code 718 = .ok (.ifCond .ne 15, 3) := by decide +kernel
theorem d_L_law_721 : decode code 721 = .ok (.aload_n 3, 1) := by decide +kernel
theorem d_L_law_722 : decode code 722 = .ok (.iconst 0, 1) := by decide +kernel
theorem d_L_law_723 : decode code 723 = .ok (.laload, 1) := by decide +kernel
theorem d_L_law_724 : decode code 724 = .ok (.iload 6, 2) := by decide +kernel
theorem d_L_law_726 : decode code 726 = .ok (.i2l, 1) := by decide +kernel
theorem d_L_law_727 : decode code 727 = .ok (.lcmp, 1) := by decide +kernel
theorem d_L_law_728 : decode code 728 = .ok (.ifCond .eq 5, 3) := by decide +kernel
theorem d_L_law_731 : decode code 731 = .ok (.iconst 0, 1) := by decide +kernel
theorem d_L_law_732 : decode code 732 = .ok (.ireturn, 1) := by decide +kernel
theorem d_L_law_733 : decode code 733 = .ok (.goto 802, 3) := by decide +kernel
theorem d_L_law_736 : decode code 736 = .ok (.aload_n 1, 1) := by decide +kernel
theorem d_L_law_737 : decode code 737 = .ok (.aload_n 0, 1) := by decide +kernel
theorem d_L_law_738 : decode code 738 = .ok (.iload 4, 2) := by decide +kernel
theorem d_L_law_740 : decode code 740 = .ok (.iconst 1, 1) := by decide +kernel
theorem d_L_law_741 : decode code 741 = .ok (.iadd, 1) := by decide +kernel
theorem d_L_law_742 : decode code 742 = .ok (.iaload, 1) := by decide +kernel
theorem d_L_law_743 : decode code 743 = .ok (.aload_n 3, 1) := by decide +kernel
theorem d_L_law_744 : decode code 744 = .ok (.invokestatic 140, 3) := by decide +kernel
theorem d_L_law_747 : decode code 747 = .ok (.istore 5, 2) := by decide +kernel
theorem d_L_law_749 : decode code 749 = .ok (.aload_n 2, 1) := by decide +kernel
theorem d_L_law_750 : decode code 750 = .ok (.aload_n 0, 1) := by decide +kernel
theorem d_L_law_751 : decode code 751 = .ok (.iload 4, 2) := by decide +kernel
theorem d_L_law_753 : decode code 753 = .ok (.iconst 1, 1) := by decide +kernel
theorem d_L_law_754 : decode code 754 = .ok (.iadd, 1) := by decide +kernel
theorem d_L_law_755 : decode code 755 = .ok (.iaload, 1) := by decide +kernel
theorem d_L_law_756 : decode code 756 = .ok (.invokevirtual 142, 3) := by decide +kernel
theorem d_L_law_759 : decode code 759 = .ok (.istore 6, 2) := by decide +kernel
theorem d_L_law_761 : decode code 761 = .ok (.aload_n 2, 1) := by decide +kernel
theorem d_L_law_762 : decode code 762 = .ok (.invokevirtual 102, 3) := by decide +kernel
theorem d_L_law_765 : decode code 765 = .ok (.iload 5, 2) := by decide +kernel
theorem d_L_law_767 : decode code 767 = .ok (.if_icmp .eq 5, 3) := by decide +kernel
theorem d_L_law_770 : decode code 770 = .ok (.iconst 0, 1) := by decide +kernel
theorem d_L_law_771 : decode code 771 = .ok (.ireturn, 1) := by decide +kernel
theorem d_L_law_772 : decode code 772 = .ok (.iload 5, 2) := by decide +kernel
theorem d_L_law_774 : decode code 774 = .ok (.ifCond .ne 15, 3) := by decide +kernel
theorem d_L_law_777 : decode code 777 = .ok (.aload_n 3, 1) := by decide +kernel
theorem d_L_law_778 : decode code 778 = .ok (.iconst 0, 1) := by decide +kernel
theorem d_L_law_779 : decode code 779 = .ok (.laload, 1) := by decide +kernel
theorem d_L_law_780 : decode code 780 = .ok (.iload 6, 2) := by decide +kernel
theorem d_L_law_782 : decode code 782 = .ok (.i2l, 1) := by decide +kernel
theorem d_L_law_783 : decode code 783 = .ok (.lcmp, 1) := by decide +kernel
theorem d_L_law_784 : decode code 784 = .ok (.ifCond .eq 5, 3) := by decide +kernel
theorem d_L_law_787 : decode code 787 = .ok (.iconst 0, 1) := by decide +kernel
theorem d_L_law_788 : decode code 788 = .ok (.ireturn, 1) := by decide +kernel
theorem d_L_law_789 : decode code 789 = .ok (.goto 746, 3) := by decide +kernel
theorem d_L_law_792 : decode code 792 = .ok (.aload_n 1, 1) := by decide +kernel
theorem d_L_law_793 : decode code 793 = .ok (.aload_n 0, 1) := by decide +kernel
theorem d_L_law_794 : decode code 794 = .ok (.iload 4, 2) := by decide +kernel
theorem d_L_law_796 : decode code 796 = .ok (.iconst 1, 1) := by decide +kernel
theorem d_L_law_797 : decode code 797 = .ok (.iadd, 1) := by decide +kernel
theorem d_L_law_798 : decode code 798 = .ok (.iaload, 1) := by decide +kernel
theorem d_L_law_799 : decode code 799 = .ok (.aload_n 0, 1) := by decide +kernel
theorem d_L_law_800 : decode code 800 = .ok (.iload 4, 2) := by decide +kernel
theorem d_L_law_802 : decode code 802 = .ok (.iconst 2, 1) := by decide +kernel
theorem d_L_law_803 : decode code 803 = .ok (.iadd, 1) := by decide +kernel
theorem d_L_law_804 : decode code 804 = .ok (.iaload, 1) := by decide +kernel
theorem d_L_law_805 : decode code 805 = .ok (.aload_n 0, 1) := by decide +kernel
theorem d_L_law_806 : decode code 806 = .ok (.iload 4, 2) := by decide +kernel
theorem d_L_law_808 : decode code 808 = .ok (.iconst 3, 1) := by decide +kernel
theorem d_L_law_809 : decode code 809 = .ok (.iadd, 1) := by decide +kernel
theorem d_L_law_810 : decode code 810 = .ok (.iaload, 1) := by decide +kernel
theorem d_L_law_811 : decode code 811 = .ok (.aload_n 0, 1) := by decide +kernel
theorem d_L_law_812 : decode code 812 = .ok (.iload 4, 2) := by decide +kernel
theorem d_L_law_814 : decode code 814 = .ok (.iconst 4, 1) := by decide +kernel
theorem d_L_law_815 : decode code 815 = .ok (.iadd, 1) := by decide +kernel
theorem d_L_law_816 : decode code 816 = .ok (.iaload, 1) := by decide +kernel
theorem d_L_law_817 : decode code 817 = .ok (.aload_n 0, 1) := by decide +kernel
theorem d_L_law_818 : decode code 818 = .ok (.iload 4, 2) := by decide +kernel
theorem d_L_law_820 : decode code 820 = .ok (.iconst 5, 1) := by decide +kernel
