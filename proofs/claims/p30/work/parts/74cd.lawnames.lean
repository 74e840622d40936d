/-! THE LAW: instructions and calls (of claim/NAMES.whole.lean.txt) -/
theorem dL_step_689 : decode cL_step 689 = .ok (.iaload, 1) := by decide +kernel
theorem dL_step_690 : decode cL_step 690 = .ok (.aload 6, 2) := by decide +kernel
theorem dL_step_692 : decode cL_step 692 = .ok (.iload 7, 2) := by decide +kernel
theorem dL_step_694 : decode cL_step 694 = .ok (.iaload, 1) := by decide +kernel
theorem dL_step_695 : decode cL_step 695 = .ok (.iadd, 1) := by decide +kernel
theorem dL_step_696 : decode cL_step 696 = .ok (.iastore, 1) := by decide +kernel
theorem dL_step_697 : decode cL_step 697 = .ok (.aload_n 3, 1) := by decide +kernel
theorem dL_step_698 : decode cL_step 698 = .ok (.bipush 6, 2) := by decide +kernel
theorem dL_step_700 : decode cL_step 700 = .ok (.iload 7, 2) := by decide +kernel
theorem dL_step_702 : decode cL_step 702 = .ok (.imul, 1) := by decide +kernel
theorem dL_step_703 : decode cL_step 703 = .ok (.aload_n 2, 1) := by decide +kernel
theorem dL_step_704 : decode cL_step 704 = .ok (.bipush 10, 2) := by decide +kernel
theorem dL_step_706 : decode cL_step 706 = .ok (.iload 7, 2) := by decide +kernel
theorem dL_step_708 : decode cL_step 708 = .ok (.iconst 2, 1) := by decide +kernel
theorem dL_step_709 : decode cL_step 709 = .ok (.idiv, 1) := by decide +kernel
theorem dL_step_710 : decode cL_step 710 = .ok (.imul, 1) := by decide +kernel
theorem dL_step_711 : decode cL_step 711 = .ok (.iconst 4, 1) := by decide +kernel
theorem dL_step_712 : decode cL_step 712 = .ok (.iadd, 1) := by decide +kernel
theorem dL_step_713 : decode cL_step 713 = .ok (.iaload, 1) := by decide +kernel
theorem dL_step_714 : decode cL_step 714 = .ok (.iadd, 1) := by decide +kernel
theorem dL_step_715 : decode cL_step 715 = .ok (.dup2, 1) := by decide +kernel
theorem dL_step_716 : decode cL_step 716 = .ok (.iaload, 1) := by decide +kernel
theorem dL_step_717 : decode cL_step 717 = .ok (.aload 6, 2) := by decide +kernel
theorem dL_step_719 : decode cL_step 719 = .ok (.iload 7, 2) := by decide +kernel
theorem dL_step_721 : decode cL_step 721 = .ok (.iaload, 1) := by decide +kernel
theorem dL_step_722 : decode cL_step 722 = .ok (.iadd, 1) := by decide +kernel
theorem dL_step_723 : decode cL_step 723 = .ok (.iastore, 1) := by decide +kernel
theorem dL_step_724 : decode cL_step 724 = .ok (.iload 8, 2) := by decide +kernel
theorem dL_step_726 : decode cL_step 726 = .ok (.bipush 8, 2) := by decide +kernel
theorem dL_step_728 : decode cL_step 728 = .ok (.if_icmp .ge 20, 3) := by decide +kernel
theorem dL_step_731 : decode cL_step 731 = .ok (.aload_n 1, 1) := by decide +kernel
theorem dL_step_732 : decode cL_step 732 = .ok (.bipush 6, 2) := by decide +kernel
theorem dL_step_734 : decode cL_step 734 = .ok (.iload 8, 2) := by decide +kernel
theorem dL_step_736 : decode cL_step 736 = .ok (.imul, 1) := by decide +kernel
theorem dL_step_737 : decode cL_step 737 = .ok (.iconst 2, 1) := by decide +kernel
theorem dL_step_738 : decode cL_step 738 = .ok (.iadd, 1) := by decide +kernel
theorem dL_step_739 : decode cL_step 739 = .ok (.dup2, 1) := by decide +kernel
theorem dL_step_740 : decode cL_step 740 = .ok (.iaload, 1) := by decide +kernel
theorem dL_step_741 : decode cL_step 741 = .ok (.aload 6, 2) := by decide +kernel
theorem dL_step_743 : decode cL_step 743 = .ok (.iload 7, 2) := by decide +kernel
theorem dL_step_745 : decode cL_step 745 = .ok (.iaload, 1) := by decide +kernel
theorem dL_step_746 : decode cL_step 746 = .ok (.isub, 1) := by decide +kernel
theorem dL_step_747 : decode cL_step 747 = .ok (.iastore, 1) := by decide +kernel
theorem dL_step_748 : decode cL_step 748 = .ok (.iload 9, 2) := by decide +kernel
theorem dL_step_750 : decode cL_step 750 = .ok (.bipush 8, 2) := by decide +kernel
theorem dL_step_752 : decode cL_step 752 = .ok (.if_icmp .ge 25, 3) := by decide +kernel
theorem dL_step_755 : decode cL_step 755 = .ok (.aload_n 1, 1) := by decide +kernel
theorem dL_step_756 : decode cL_step 756 = .ok (.bipush 6, 2) := by decide +kernel
theorem dL_step_758 : decode cL_step 758 = .ok (.iload 9, 2) := by decide +kernel
theorem dL_step_760 : decode cL_step 760 = .ok (.imul, 1) := by decide +kernel
theorem dL_step_761 : decode cL_step 761 = .ok (.iconst 2, 1) := by decide +kernel
theorem dL_step_762 : decode cL_step 762 = .ok (.iadd, 1) := by decide +kernel
theorem dL_step_763 : decode cL_step 763 = .ok (.dup2, 1) := by decide +kernel
theorem dL_step_764 : decode cL_step 764 = .ok (.iaload, 1) := by decide +kernel
theorem dL_step_765 : decode cL_step 765 = .ok (.aload_n 3, 1) := by decide +kernel
theorem dL_step_766 : decode cL_step 766 = .ok (.bipush 6, 2) := by decide +kernel
theorem dL_step_768 : decode cL_step 768 = .ok (.iload 7, 2) := by decide +kernel
theorem dL_step_770 : decode cL_step 770 = .ok (.imul, 1) := by decide +kernel
theorem dL_step_771 : decode cL_step 771 = .ok (.iaload, 1) := by decide +kernel
theorem dL_step_772 : decode cL_step 772 = .ok (.iadd, 1) := by decide +kernel
theorem dL_step_773 : decode cL_step 773 = .ok (.iastore, 1) := by decide +kernel
theorem dL_step_774 : decode cL_step 774 = .ok (.goto 16, 3) := by decide +kernel
theorem dL_step_777 : decode cL_step 777 = .ok (.aload_n 0, 1) := by decide +kernel
theorem dL_step_778 : decode cL_step 778 = .ok (.iconst 4, 1) := by decide +kernel
theorem dL_step_779 : decode cL_step 779 = .ok (.dup2, 1) := by decide +kernel
theorem dL_step_780 : decode cL_step 780 = .ok (.iaload, 1) := by decide +kernel
theorem dL_step_781 : decode cL_step 781 = .ok (.aload_n 3, 1) := by decide +kernel
theorem dL_step_782 : decode cL_step 782 = .ok (.bipush 6, 2) := by decide +kernel
theorem dL_step_784 : decode cL_step 784 = .ok (.iload 7, 2) := by decide +kernel
theorem dL_step_786 : decode cL_step 786 = .ok (.imul, 1) := by decide +kernel
theorem dL_step_787 : decode cL_step 787 = .ok (.iaload, 1) := by decide +kernel
theorem dL_step_788 : decode cL_step 788 = .ok (.iadd, 1) := by decide +kernel
theorem dL_step_789 : decode cL_step 789 = .ok (.iastore, 1) := by decide +kernel
theorem dL_step_790 : decode cL_step 790 = .ok (.iconst 0, 1) := by decide +kernel
theorem dL_step_791 : decode cL_step 791 = .ok (.istore 10, 2) := by decide +kernel
theorem dL_step_793 : decode cL_step 793 = .ok (.iload 10, 2) := by decide +kernel
theorem dL_step_795 : decode cL_step 795 = .ok (.bipush 6, 2) := by decide +kernel
theorem dL_step_797 : decode cL_step 797 = .ok (.if_icmp .ge 41, 3) := by decide +kernel
theorem dL_step_800 : decode cL_step 800 = .ok (.aload_n 3, 1) := by decide +kernel
theorem dL_step_801 : decode cL_step 801 = .ok (.bipush 6, 2) := by decide +kernel
theorem dL_step_803 : decode cL_step 803 = .ok (.iload 7, 2) := by decide +kernel
theorem dL_step_805 : decode cL_step 805 = .ok (.imul, 1) := by decide +kernel
theorem dL_step_806 : decode cL_step 806 = .ok (.iload 10, 2) := by decide +kernel
theorem dL_step_808 : decode cL_step 808 = .ok (.iadd, 1) := by decide +kernel
theorem dL_step_809 : decode cL_step 809 = .ok (.iload 10, 2) := by decide +kernel
theorem dL_step_811 : decode cL_step 811 = .ok (.iconst 5, 1) := by decide +kernel
theorem dL_step_812 : decode cL_step 812 = .ok (.if_icmp .ge 18, 3) := by decide +kernel
theorem dL_step_815 : decode cL_step 815 = .ok (.aload_n 3, 1) := by decide +kernel
theorem dL_step_816 : decode cL_step 816 = .ok (.bipush 6, 2) := by decide +kernel
theorem dL_step_818 : decode cL_step 818 = .ok (.iload 7, 2) := by decide +kernel
theorem dL_step_820 : decode cL_step 820 = .ok (.imul, 1) := by decide +kernel
theorem dL_step_821 : decode cL_step 821 = .ok (.iload 10, 2) := by decide +kernel
theorem dL_step_823 : decode cL_step 823 = .ok (.iadd, 1) := by decide +kernel
theorem dL_step_824 : decode cL_step 824 = .ok (.iconst 1, 1) := by decide +kernel
theorem dL_step_825 : decode cL_step 825 = .ok (.iadd, 1) := by decide +kernel
theorem dL_step_826 : decode cL_step 826 = .ok (.iaload, 1) := by decide +kernel
theorem dL_step_827 : decode cL_step 827 = .ok (.goto 4, 3) := by decide +kernel
theorem dL_step_830 : decode cL_step 830 = .ok (.iconst 0, 1) := by decide +kernel
theorem dL_step_831 : decode cL_step 831 = .ok (.iastore, 1) := by decide +kernel
theorem dL_step_832 : decode cL_step 832 = .ok (.iinc 10 1, 3) := by decide +kernel
theorem dL_step_835 : decode cL_step 835 = .ok (.goto (-42), 3) := by decide +kernel
theorem dL_step_838 : decode cL_step 838 = .ok (.iinc 7 1, 3) := by decide +kernel
theorem dL_step_841 : decode cL_step 841 = .ok (.goto (-213), 3) := by decide +kernel
theorem dL_step_844 : decode cL_step 844 = .ok (.aload_n 0, 1) := by decide +kernel
theorem dL_step_845 : decode cL_step 845 = .ok (.iconst 3, 1) := by decide +kernel
theorem dL_step_846 : decode cL_step 846 = .ok (.dup2, 1) := by decide +kernel
theorem dL_step_847 : decode cL_step 847 = .ok (.iaload, 1) := by decide +kernel
theorem dL_step_848 : decode cL_step 848 = .ok (.iconst 1, 1) := by decide +kernel
theorem dL_step_849 : decode cL_step 849 = .ok (.iadd, 1) := by decide +kernel
theorem dL_step_850 : decode cL_step 850 = .ok (.iastore, 1) := by decide +kernel
theorem dL_step_851 : decode cL_step 851 = .ok (.return_, 1) := by decide +kernel
