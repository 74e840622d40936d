/-! THE LAW: instructions and calls (of claim/NAMES.whole.lean.txt) -/
theorem dL_isSo_532 : decode cL_isSo 532 = .ok (.goto 4, 3) := by decide +kernel
theorem dL_isSo_535 : decode cL_isSo 535 = .ok (.iconst 0, 1) := by decide +kernel
theorem dL_isSo_536 : decode cL_isSo 536 = .ok (.istore 10, 2) := by decide +kernel
theorem dL_isSo_538 : decode cL_isSo 538 = .ok (.iinc 11 1, 3) := by decide +kernel
theorem dL_isSo_541 : decode cL_isSo 541 = .ok (.goto (-45), 3) := by decide +kernel
theorem dL_isSo_544 : decode cL_isSo 544 = .ok (.iload 6, 2) := by decide +kernel
theorem dL_isSo_546 : decode cL_isSo 546 = .ok (.iload 9, 2) := by decide +kernel
theorem dL_isSo_548 : decode cL_isSo 548 = .ok (.iadd, 1) := by decide +kernel
theorem dL_isSo_549 : decode cL_isSo 549 = .ok (.iload 7, 2) := by decide +kernel
theorem dL_isSo_551 : decode cL_isSo 551 = .ok (.iadd, 1) := by decide +kernel
theorem dL_isSo_552 : decode cL_isSo 552 = .ok (.aload_n 1, 1) := by decide +kernel
theorem dL_isSo_553 : decode cL_isSo 553 = .ok (.iconst 4, 1) := by decide +kernel
theorem dL_isSo_554 : decode cL_isSo 554 = .ok (.iaload, 1) := by decide +kernel
theorem dL_isSo_555 : decode cL_isSo 555 = .ok (.iadd, 1) := by decide +kernel
theorem dL_isSo_556 : decode cL_isSo 556 = .ok (.iload 8, 2) := by decide +kernel
theorem dL_isSo_558 : decode cL_isSo 558 = .ok (.if_icmp .ne 7, 3) := by decide +kernel
theorem dL_isSo_561 : decode cL_isSo 561 = .ok (.iconst 1, 1) := by decide +kernel
theorem dL_isSo_562 : decode cL_isSo 562 = .ok (.goto 4, 3) := by decide +kernel
theorem dL_isSo_565 : decode cL_isSo 565 = .ok (.iconst 0, 1) := by decide +kernel
theorem dL_isSo_566 : decode cL_isSo 566 = .ok (.istore 11, 2) := by decide +kernel
theorem dL_isSo_568 : decode cL_isSo 568 = .ok (.iload 10, 2) := by decide +kernel
theorem dL_isSo_570 : decode cL_isSo 570 = .ok (.ifCond .eq 49, 3) := by decide +kernel
theorem dL_isSo_573 : decode cL_isSo 573 = .ok (.iload 11, 2) := by decide +kernel
theorem dL_isSo_575 : decode cL_isSo 575 = .ok (.ifCond .eq 44, 3) := by decide +kernel
theorem dL_isSo_578 : decode cL_isSo 578 = .ok (.aload_n 0, 1) := by decide +kernel
theorem dL_isSo_579 : decode cL_isSo 579 = .ok (.aload_n 1, 1) := by decide +kernel
theorem dL_isSo_580 : decode cL_isSo 580 = .ok (.iconst 2, 1) := by decide +kernel
theorem dL_isSo_581 : decode cL_isSo 581 = .ok (.iaload, 1) := by decide +kernel
theorem dL_isSo_582 : decode cL_isSo 582 = .ok (.iconst 0, 1) := by decide +kernel
theorem dL_isSo_583 : decode cL_isSo 583 = .ok (.invokevirtual 90, 3) := by decide +kernel
theorem dL_isSo_586 : decode cL_isSo 586 = .ok (.bipush (-4), 2) := by decide +kernel
theorem dL_isSo_588 : decode cL_isSo 588 = .ok (.if_icmp .ne 31, 3) := by decide +kernel
theorem dL_isSo_591 : decode cL_isSo 591 = .ok (.aload_n 0, 1) := by decide +kernel
theorem dL_isSo_592 : decode cL_isSo 592 = .ok (.aload_n 1, 1) := by decide +kernel
theorem dL_isSo_593 : decode cL_isSo 593 = .ok (.iconst 0, 1) := by decide +kernel
theorem dL_isSo_594 : decode cL_isSo 594 = .ok (.iaload, 1) := by decide +kernel
theorem dL_isSo_595 : decode cL_isSo 595 = .ok (.iconst 0, 1) := by decide +kernel
theorem dL_isSo_596 : decode cL_isSo 596 = .ok (.invokevirtual 77, 3) := by decide +kernel
theorem dL_isSo_599 : decode cL_isSo 599 = .ok (.iconst (-1), 1) := by decide +kernel
theorem dL_isSo_600 : decode cL_isSo 600 = .ok (.if_icmp .ne 19, 3) := by decide +kernel
theorem dL_isSo_603 : decode cL_isSo 603 = .ok (.aload_n 0, 1) := by decide +kernel
theorem dL_isSo_604 : decode cL_isSo 604 = .ok (.aload_n 1, 1) := by decide +kernel
theorem dL_isSo_605 : decode cL_isSo 605 = .ok (.iconst 1, 1) := by decide +kernel
theorem dL_isSo_606 : decode cL_isSo 606 = .ok (.iaload, 1) := by decide +kernel
theorem dL_isSo_607 : decode cL_isSo 607 = .ok (.iconst 0, 1) := by decide +kernel
theorem dL_isSo_608 : decode cL_isSo 608 = .ok (.invokevirtual 87, 3) := by decide +kernel
theorem dL_isSo_611 : decode cL_isSo 611 = .ok (.iconst (-1), 1) := by decide +kernel
theorem dL_isSo_612 : decode cL_isSo 612 = .ok (.if_icmp .ne 7, 3) := by decide +kernel
theorem dL_isSo_615 : decode cL_isSo 615 = .ok (.iconst 1, 1) := by decide +kernel
theorem dL_isSo_616 : decode cL_isSo 616 = .ok (.goto 4, 3) := by decide +kernel
theorem dL_isSo_619 : decode cL_isSo 619 = .ok (.iconst 0, 1) := by decide +kernel
theorem dL_isSo_620 : decode cL_isSo 620 = .ok (.istore 10, 2) := by decide +kernel
theorem dL_isSo_622 : decode cL_isSo 622 = .ok (.iload 10, 2) := by decide +kernel
theorem dL_isSo_624 : decode cL_isSo 624 = .ok (.ifCond .eq 165, 3) := by decide +kernel
theorem dL_isSo_627 : decode cL_isSo 627 = .ok (.aload_n 0, 1) := by decide +kernel
theorem dL_isSo_628 : decode cL_isSo 628 = .ok (.iconst 0, 1) := by decide +kernel
theorem dL_isSo_629 : decode cL_isSo 629 = .ok (.invokevirtual 93, 3) := by decide +kernel
theorem dL_isSo_632 : decode cL_isSo 632 = .ok (.aload_n 1, 1) := by decide +kernel
theorem dL_isSo_633 : decode cL_isSo 633 = .ok (.iconst 0, 1) := by decide +kernel
theorem dL_isSo_634 : decode cL_isSo 634 = .ok (.iaload, 1) := by decide +kernel
theorem dL_isSo_635 : decode cL_isSo 635 = .ok (.if_icmp .ne 154, 3) := by decide +kernel
theorem dL_isSo_638 : decode cL_isSo 638 = .ok (.aload_n 0, 1) := by decide +kernel
theorem dL_isSo_639 : decode cL_isSo 639 = .ok (.iconst 1, 1) := by decide +kernel
theorem dL_isSo_640 : decode cL_isSo 640 = .ok (.invokevirtual 93, 3) := by decide +kernel
theorem dL_isSo_643 : decode cL_isSo 643 = .ok (.aload_n 1, 1) := by decide +kernel
theorem dL_isSo_644 : decode cL_isSo 644 = .ok (.iconst 1, 1) := by decide +kernel
theorem dL_isSo_645 : decode cL_isSo 645 = .ok (.iaload, 1) := by decide +kernel
theorem dL_isSo_646 : decode cL_isSo 646 = .ok (.if_icmp .ne 143, 3) := by decide +kernel
theorem dL_isSo_649 : decode cL_isSo 649 = .ok (.aload_n 0, 1) := by decide +kernel
theorem dL_isSo_650 : decode cL_isSo 650 = .ok (.iconst 2, 1) := by decide +kernel
theorem dL_isSo_651 : decode cL_isSo 651 = .ok (.invokevirtual 93, 3) := by decide +kernel
theorem dL_isSo_654 : decode cL_isSo 654 = .ok (.aload_n 1, 1) := by decide +kernel
theorem dL_isSo_655 : decode cL_isSo 655 = .ok (.iconst 2, 1) := by decide +kernel
theorem dL_isSo_656 : decode cL_isSo 656 = .ok (.iaload, 1) := by decide +kernel
theorem dL_isSo_657 : decode cL_isSo 657 = .ok (.if_icmp .ne 132, 3) := by decide +kernel
theorem dL_isSo_660 : decode cL_isSo 660 = .ok (.aload_n 0, 1) := by decide +kernel
theorem dL_isSo_661 : decode cL_isSo 661 = .ok (.iconst 3, 1) := by decide +kernel
theorem dL_isSo_662 : decode cL_isSo 662 = .ok (.invokevirtual 93, 3) := by decide +kernel
theorem dL_isSo_665 : decode cL_isSo 665 = .ok (.aload_n 1, 1) := by decide +kernel
theorem dL_isSo_666 : decode cL_isSo 666 = .ok (.iconst 3, 1) := by decide +kernel
theorem dL_isSo_667 : decode cL_isSo 667 = .ok (.iaload, 1) := by decide +kernel
theorem dL_isSo_668 : decode cL_isSo 668 = .ok (.if_icmp .ne 121, 3) := by decide +kernel
theorem dL_isSo_671 : decode cL_isSo 671 = .ok (.aload_n 0, 1) := by decide +kernel
theorem dL_isSo_672 : decode cL_isSo 672 = .ok (.iconst 4, 1) := by decide +kernel
theorem dL_isSo_673 : decode cL_isSo 673 = .ok (.invokevirtual 93, 3) := by decide +kernel
theorem dL_isSo_676 : decode cL_isSo 676 = .ok (.iload 6, 2) := by decide +kernel
theorem dL_isSo_678 : decode cL_isSo 678 = .ok (.if_icmp .ne 111, 3) := by decide +kernel
theorem dL_isSo_681 : decode cL_isSo 681 = .ok (.aload_n 0, 1) := by decide +kernel
theorem dL_isSo_682 : decode cL_isSo 682 = .ok (.iconst 5, 1) := by decide +kernel
theorem dL_isSo_683 : decode cL_isSo 683 = .ok (.invokevirtual 93, 3) := by decide +kernel
theorem dL_isSo_686 : decode cL_isSo 686 = .ok (.iload 9, 2) := by decide +kernel
theorem dL_isSo_688 : decode cL_isSo 688 = .ok (.if_icmp .ne 101, 3) := by decide +kernel
theorem dL_isSo_691 : decode cL_isSo 691 = .ok (.aload_n 0, 1) := by decide +kernel
theorem dL_isSo_692 : decode cL_isSo 692 = .ok (.bipush 6, 2) := by decide +kernel
theorem dL_isSo_694 : decode cL_isSo 694 = .ok (.invokevirtual 93, 3) := by decide +kernel
theorem dL_isSo_697 : decode cL_isSo 697 = .ok (.iload 7, 2) := by decide +kernel
theorem dL_isSo_699 : decode cL_isSo 699 = .ok (.if_icmp .ne 90, 3) := by decide +kernel
theorem dL_isSo_702 : decode cL_isSo 702 = .ok (.aload_n 0, 1) := by decide +kernel
theorem dL_isSo_703 : decode cL_isSo 703 = .ok (.bipush 7, 2) := by decide +kernel
theorem dL_isSo_705 : decode cL_isSo 705 = .ok (.invokevirtual 93, 3) := by decide +kernel
theorem dL_isSo_708 : decode cL_isSo 708 = .ok (.aload_n 1, 1) := by decide +kernel
theorem dL_isSo_709 : decode cL_isSo 709 = .ok (.iconst 4, 1) := by decide +kernel
theorem dL_isSo_710 : decode cL_isSo 710 = .ok (.iaload, 1) := by decide +kernel
theorem dL_isSo_711 : decode cL_isSo 711 = .ok (.if_icmp .ne 78, 3) := by decide +kernel
theorem dL_isSo_714 : decode cL_isSo 714 = .ok (.aload_n 0, 1) := by decide +kernel
theorem dL_isSo_715 : decode cL_isSo 715 = .ok (.bipush 8, 2) := by decide +kernel
theorem dL_isSo_717 : decode cL_isSo 717 = .ok (.invokevirtual 93, 3) := by decide +kernel
theorem dL_isSo_720 : decode cL_isSo 720 = .ok (.iload 8, 2) := by decide +kernel
theorem dL_isSo_722 : decode cL_isSo 722 = .ok (.if_icmp .ne 67, 3) := by decide +kernel
theorem dL_isSo_725 : decode cL_isSo 725 = .ok (.aload_n 0, 1) := by decide +kernel
theorem dL_isSo_726 : decode cL_isSo 726 = .ok (.bipush 9, 2) := by decide +kernel
theorem dL_isSo_728 : decode cL_isSo 728 = .ok (.invokevirtual 93, 3) := by decide +kernel
theorem dL_isSo_731 : decode cL_isSo 731 = .ok (.aload_n 1, 1) := by decide +kernel
theorem dL_isSo_732 : decode cL_isSo 732 = .ok (.iconst 5, 1) := by decide +kernel
theorem dL_isSo_733 : decode cL_isSo 733 = .ok (.iaload, 1) := by decide +kernel
theorem dL_isSo_734 : decode cL_isSo 734 = .ok (.if_icmp .ne 55, 3) := by decide +kernel
theorem dL_isSo_737 : decode cL_isSo 737 = .ok (.aload_n 0, 1) := by decide +kernel
theorem dL_isSo_738 : decode cL_isSo 738 = .ok (.bipush 10, 2) := by decide +kernel
theorem dL_isSo_740 : decode cL_isSo 740 = .ok (.invokevirtual 93, 3) := by decide +kernel
theorem dL_isSo_743 : decode cL_isSo 743 = .ok (.aload_n 1, 1) := by decide +kernel
theorem dL_isSo_744 : decode cL_isSo 744 = .ok (.bipush 6, 2) := by decide +kernel
theorem dL_isSo_746 : decode cL_isSo 746 = .ok (.iaload, 1) := by decide +kernel
theorem dL_isSo_747 : decode cL_isSo 747 = .ok (.if_icmp .ne 42, 3) := by decide +kernel
theorem dL_isSo_750 : decode cL_isSo 750 = .ok (.aload_n 0, 1) := by decide +kernel
theorem dL_isSo_751 : decode cL_isSo 751 = .ok (.bipush 12, 2) := by decide +kernel
theorem dL_isSo_753 : decode cL_isSo 753 = .ok (.invokevirtual 93, 3) := by decide +kernel
theorem dL_isSo_756 : decode cL_isSo 756 = .ok (.ifCond .ne 33, 3) := by decide +kernel
theorem dL_isSo_759 : decode cL_isSo 759 = .ok (.aload_n 0, 1) := by decide +kernel
theorem dL_isSo_760 : decode cL_isSo 760 = .ok (.bipush 20, 2) := by decide +kernel
theorem dL_isSo_762 : decode cL_isSo 762 = .ok (.invokevirtual 93, 3) := by decide +kernel
theorem dL_isSo_765 : decode cL_isSo 765 = .ok (.aload_n 1, 1) := by decide +kernel
theorem dL_isSo_766 : decode cL_isSo 766 = .ok (.bipush 7, 2) := by decide +kernel
theorem dL_isSo_768 : decode cL_isSo 768 = .ok (.iaload, 1) := by decide +kernel
theorem dL_isSo_769 : decode cL_isSo 769 = .ok (.if_icmp .ne 20, 3) := by decide +kernel
theorem dL_isSo_772 : decode cL_isSo 772 = .ok (.aload_n 0, 1) := by decide +kernel
theorem dL_isSo_773 : decode cL_isSo 773 = .ok (.bipush 21, 2) := by decide +kernel
theorem dL_isSo_775 : decode cL_isSo 775 = .ok (.invokevirtual 93, 3) := by decide +kernel
theorem dL_isSo_778 : decode cL_isSo 778 = .ok (.aload_n 1, 1) := by decide +kernel
theorem dL_isSo_779 : decode cL_isSo 779 = .ok (.bipush 8, 2) := by decide +kernel
theorem dL_isSo_781 : decode cL_isSo 781 = .ok (.iaload, 1) := by decide +kernel
theorem dL_isSo_782 : decode cL_isSo 782 = .ok (.if_icmp .ne 7, 3) := by decide +kernel
theorem dL_isSo_785 : decode cL_isSo 785 = .ok (.iconst 1, 1) := by decide +kernel
theorem dL_isSo_786 : decode cL_isSo 786 = .ok (.goto 4, 3) := by decide +kernel
theorem dL_isSo_789 : decode cL_isSo 789 = .ok (.iconst 0, 1) := by decide +kernel
theorem dL_isSo_790 : decode cL_isSo 790 = .ok (.ireturn, 1) := by decide +kernel
