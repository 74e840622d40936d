/-! THE LAW: instructions and calls (of claim/NAMES.whole.lean.txt) -/
theorem dL_acts_726 : decode cL_acts 726 = .ok (.goto 4, 3) := by decide +kernel
theorem dL_acts_729 : decode cL_acts 729 = .ok (.iconst 0, 1) := by decide +kernel
theorem dL_acts_730 : decode cL_acts 730 = .ok (.ireturn, 1) := by decide +kernel
theorem dL_acts_731 : decode cL_acts 731 = .ok (.iload 8, 2) := by decide +kernel
theorem dL_acts_733 : decode cL_acts 733 = .ok (.aload_n 1, 1) := by decide +kernel
theorem dL_acts_734 : decode cL_acts 734 = .ok (.iconst 1, 1) := by decide +kernel
theorem dL_acts_735 : decode cL_acts 735 = .ok (.iaload, 1) := by decide +kernel
theorem dL_acts_736 : decode cL_acts 736 = .ok (.irem, 1) := by decide +kernel
theorem dL_acts_737 : decode cL_acts 737 = .ok (.istore 11, 2) := by decide +kernel
theorem dL_acts_739 : decode cL_acts 739 = .ok (.iload 8, 2) := by decide +kernel
theorem dL_acts_741 : decode cL_acts 741 = .ok (.iconst 4, 1) := by decide +kernel
theorem dL_acts_742 : decode cL_acts 742 = .ok (.idiv, 1) := by decide +kernel
theorem dL_acts_743 : decode cL_acts 743 = .ok (.bipush 11, 2) := by decide +kernel
theorem dL_acts_745 : decode cL_acts 745 = .ok (.irem, 1) := by decide +kernel
theorem dL_acts_746 : decode cL_acts 746 = .ok (.istore 12, 2) := by decide +kernel
theorem dL_acts_748 : decode cL_acts 748 = .ok (.iload 9, 2) := by decide +kernel
theorem dL_acts_750 : decode cL_acts 750 = .ok (.bipush 6, 2) := by decide +kernel
theorem dL_acts_752 : decode cL_acts 752 = .ok (.if_icmp .ge 78, 3) := by decide +kernel
theorem dL_acts_755 : decode cL_acts 755 = .ok (.aload_n 3, 1) := by decide +kernel
theorem dL_acts_756 : decode cL_acts 756 = .ok (.bipush 10, 2) := by decide +kernel
theorem dL_acts_758 : decode cL_acts 758 = .ok (.iload 11, 2) := by decide +kernel
theorem dL_acts_760 : decode cL_acts 760 = .ok (.imul, 1) := by decide +kernel
theorem dL_acts_761 : decode cL_acts 761 = .ok (.bipush 6, 2) := by decide +kernel
theorem dL_acts_763 : decode cL_acts 763 = .ok (.iadd, 1) := by decide +kernel
theorem dL_acts_764 : decode cL_acts 764 = .ok (.iaload, 1) := by decide +kernel
theorem dL_acts_765 : decode cL_acts 765 = .ok (.istore 13, 2) := by decide +kernel
theorem dL_acts_767 : decode cL_acts 767 = .ok (.aload_n 1, 1) := by decide +kernel
theorem dL_acts_768 : decode cL_acts 768 = .ok (.aload_n 2, 1) := by decide +kernel
theorem dL_acts_769 : decode cL_acts 769 = .ok (.aload_n 3, 1) := by decide +kernel
theorem dL_acts_770 : decode cL_acts 770 = .ok (.iload 11, 2) := by decide +kernel
theorem dL_acts_772 : decode cL_acts 772 = .ok (.iload 12, 2) := by decide +kernel
theorem dL_acts_774 : decode cL_acts 774 = .ok (.invokestatic 49, 3) := by decide +kernel
theorem dL_acts_777 : decode cL_acts 777 = .ok (.ifCond .le 22, 3) := by decide +kernel
theorem dL_acts_780 : decode cL_acts 780 = .ok (.aload_n 0, 1) := by decide +kernel
theorem dL_acts_781 : decode cL_acts 781 = .ok (.iload 11, 2) := by decide +kernel
theorem dL_acts_783 : decode cL_acts 783 = .ok (.iload 12, 2) := by decide +kernel
theorem dL_acts_785 : decode cL_acts 785 = .ok (.invokevirtual 39, 3) := by decide +kernel
theorem dL_acts_788 : decode cL_acts 788 = .ok (.bipush (-2), 2) := by decide +kernel
theorem dL_acts_790 : decode cL_acts 790 = .ok (.if_icmp .ne 7, 3) := by decide +kernel
theorem dL_acts_793 : decode cL_acts 793 = .ok (.iconst 1, 1) := by decide +kernel
theorem dL_acts_794 : decode cL_acts 794 = .ok (.goto 4, 3) := by decide +kernel
theorem dL_acts_797 : decode cL_acts 797 = .ok (.iconst 0, 1) := by decide +kernel
theorem dL_acts_798 : decode cL_acts 798 = .ok (.ireturn, 1) := by decide +kernel
theorem dL_acts_799 : decode cL_acts 799 = .ok (.aload_n 3, 1) := by decide +kernel
theorem dL_acts_800 : decode cL_acts 800 = .ok (.bipush 10, 2) := by decide +kernel
theorem dL_acts_802 : decode cL_acts 802 = .ok (.iload 11, 2) := by decide +kernel
theorem dL_acts_804 : decode cL_acts 804 = .ok (.imul, 1) := by decide +kernel
theorem dL_acts_805 : decode cL_acts 805 = .ok (.bipush 6, 2) := by decide +kernel
theorem dL_acts_807 : decode cL_acts 807 = .ok (.iadd, 1) := by decide +kernel
theorem dL_acts_808 : decode cL_acts 808 = .ok (.iload 12, 2) := by decide +kernel
theorem dL_acts_810 : decode cL_acts 810 = .ok (.iastore, 1) := by decide +kernel
theorem dL_acts_811 : decode cL_acts 811 = .ok (.aload_n 0, 1) := by decide +kernel
theorem dL_acts_812 : decode cL_acts 812 = .ok (.iload 11, 2) := by decide +kernel
theorem dL_acts_814 : decode cL_acts 814 = .ok (.iload 12, 2) := by decide +kernel
theorem dL_acts_816 : decode cL_acts 816 = .ok (.invokevirtual 39, 3) := by decide +kernel
theorem dL_acts_819 : decode cL_acts 819 = .ok (.iload 13, 2) := by decide +kernel
theorem dL_acts_821 : decode cL_acts 821 = .ok (.if_icmp .ne 7, 3) := by decide +kernel
theorem dL_acts_824 : decode cL_acts 824 = .ok (.iconst 1, 1) := by decide +kernel
theorem dL_acts_825 : decode cL_acts 825 = .ok (.goto 4, 3) := by decide +kernel
theorem dL_acts_828 : decode cL_acts 828 = .ok (.iconst 0, 1) := by decide +kernel
theorem dL_acts_829 : decode cL_acts 829 = .ok (.ireturn, 1) := by decide +kernel
theorem dL_acts_830 : decode cL_acts 830 = .ok (.iload 9, 2) := by decide +kernel
theorem dL_acts_832 : decode cL_acts 832 = .ok (.bipush 8, 2) := by decide +kernel
theorem dL_acts_834 : decode cL_acts 834 = .ok (.if_icmp .ge 121, 3) := by decide +kernel
theorem dL_acts_837 : decode cL_acts 837 = .ok (.iload 8, 2) := by decide +kernel
theorem dL_acts_839 : decode cL_acts 839 = .ok (.iconst 4, 1) := by decide +kernel
theorem dL_acts_840 : decode cL_acts 840 = .ok (.idiv, 1) := by decide +kernel
theorem dL_acts_841 : decode cL_acts 841 = .ok (.iconst 2, 1) := by decide +kernel
theorem dL_acts_842 : decode cL_acts 842 = .ok (.irem, 1) := by decide +kernel
theorem dL_acts_843 : decode cL_acts 843 = .ok (.istore 13, 2) := by decide +kernel
theorem dL_acts_845 : decode cL_acts 845 = .ok (.aload_n 3, 1) := by decide +kernel
theorem dL_acts_846 : decode cL_acts 846 = .ok (.bipush 10, 2) := by decide +kernel
theorem dL_acts_848 : decode cL_acts 848 = .ok (.iload 11, 2) := by decide +kernel
theorem dL_acts_850 : decode cL_acts 850 = .ok (.imul, 1) := by decide +kernel
theorem dL_acts_851 : decode cL_acts 851 = .ok (.bipush 7, 2) := by decide +kernel
theorem dL_acts_853 : decode cL_acts 853 = .ok (.iadd, 1) := by decide +kernel
theorem dL_acts_854 : decode cL_acts 854 = .ok (.iaload, 1) := by decide +kernel
theorem dL_acts_855 : decode cL_acts 855 = .ok (.iload 13, 2) := by decide +kernel
theorem dL_acts_857 : decode cL_acts 857 = .ok (.if_icmp .ne 22, 3) := by decide +kernel
theorem dL_acts_860 : decode cL_acts 860 = .ok (.aload_n 0, 1) := by decide +kernel
theorem dL_acts_861 : decode cL_acts 861 = .ok (.iload 11, 2) := by decide +kernel
theorem dL_acts_863 : decode cL_acts 863 = .ok (.iload 13, 2) := by decide +kernel
theorem dL_acts_865 : decode cL_acts 865 = .ok (.invokevirtual 42, 3) := by decide +kernel
theorem dL_acts_868 : decode cL_acts 868 = .ok (.bipush (-2), 2) := by decide +kernel
theorem dL_acts_870 : decode cL_acts 870 = .ok (.if_icmp .ne 7, 3) := by decide +kernel
theorem dL_acts_873 : decode cL_acts 873 = .ok (.iconst 1, 1) := by decide +kernel
theorem dL_acts_874 : decode cL_acts 874 = .ok (.goto 4, 3) := by decide +kernel
theorem dL_acts_877 : decode cL_acts 877 = .ok (.iconst 0, 1) := by decide +kernel
theorem dL_acts_878 : decode cL_acts 878 = .ok (.ireturn, 1) := by decide +kernel
theorem dL_acts_879 : decode cL_acts 879 = .ok (.aload_n 3, 1) := by decide +kernel
theorem dL_acts_880 : decode cL_acts 880 = .ok (.bipush 10, 2) := by decide +kernel
theorem dL_acts_882 : decode cL_acts 882 = .ok (.iload 11, 2) := by decide +kernel
theorem dL_acts_884 : decode cL_acts 884 = .ok (.imul, 1) := by decide +kernel
theorem dL_acts_885 : decode cL_acts 885 = .ok (.bipush 7, 2) := by decide +kernel
theorem dL_acts_887 : decode cL_acts 887 = .ok (.iadd, 1) := by decide +kernel
theorem dL_acts_888 : decode cL_acts 888 = .ok (.iload 13, 2) := by decide +kernel
theorem dL_acts_890 : decode cL_acts 890 = .ok (.iastore, 1) := by decide +kernel
theorem dL_acts_891 : decode cL_acts 891 = .ok (.aload_n 3, 1) := by decide +kernel
theorem dL_acts_892 : decode cL_acts 892 = .ok (.bipush 10, 2) := by decide +kernel
theorem dL_acts_894 : decode cL_acts 894 = .ok (.iload 11, 2) := by decide +kernel
theorem dL_acts_896 : decode cL_acts 896 = .ok (.imul, 1) := by decide +kernel
theorem dL_acts_897 : decode cL_acts 897 = .ok (.bipush 6, 2) := by decide +kernel
theorem dL_acts_899 : decode cL_acts 899 = .ok (.iadd, 1) := by decide +kernel
theorem dL_acts_900 : decode cL_acts 900 = .ok (.iload 13, 2) := by decide +kernel
theorem dL_acts_902 : decode cL_acts 902 = .ok (.iconst 1, 1) := by decide +kernel
theorem dL_acts_903 : decode cL_acts 903 = .ok (.if_icmp .ne 15, 3) := by decide +kernel
theorem dL_acts_906 : decode cL_acts 906 = .ok (.aload_n 3, 1) := by decide +kernel
theorem dL_acts_907 : decode cL_acts 907 = .ok (.bipush 10, 2) := by decide +kernel
theorem dL_acts_909 : decode cL_acts 909 = .ok (.iload 11, 2) := by decide +kernel
theorem dL_acts_911 : decode cL_acts 911 = .ok (.imul, 1) := by decide +kernel
theorem dL_acts_912 : decode cL_acts 912 = .ok (.iconst 5, 1) := by decide +kernel
theorem dL_acts_913 : decode cL_acts 913 = .ok (.iadd, 1) := by decide +kernel
theorem dL_acts_914 : decode cL_acts 914 = .ok (.iaload, 1) := by decide +kernel
theorem dL_acts_915 : decode cL_acts 915 = .ok (.goto 13, 3) := by decide +kernel
theorem dL_acts_918 : decode cL_acts 918 = .ok (.aload_n 3, 1) := by decide +kernel
theorem dL_acts_919 : decode cL_acts 919 = .ok (.bipush 10, 2) := by decide +kernel
theorem dL_acts_921 : decode cL_acts 921 = .ok (.iload 11, 2) := by decide +kernel
theorem dL_acts_923 : decode cL_acts 923 = .ok (.imul, 1) := by decide +kernel
theorem dL_acts_924 : decode cL_acts 924 = .ok (.bipush 6, 2) := by decide +kernel
theorem dL_acts_926 : decode cL_acts 926 = .ok (.iadd, 1) := by decide +kernel
theorem dL_acts_927 : decode cL_acts 927 = .ok (.iaload, 1) := by decide +kernel
theorem dL_acts_928 : decode cL_acts 928 = .ok (.iastore, 1) := by decide +kernel
theorem dL_acts_929 : decode cL_acts 929 = .ok (.aload_n 0, 1) := by decide +kernel
theorem dL_acts_930 : decode cL_acts 930 = .ok (.iload 11, 2) := by decide +kernel
theorem dL_acts_932 : decode cL_acts 932 = .ok (.iload 13, 2) := by decide +kernel
theorem dL_acts_934 : decode cL_acts 934 = .ok (.invokevirtual 42, 3) := by decide +kernel
theorem dL_acts_937 : decode cL_acts 937 = .ok (.aload_n 3, 1) := by decide +kernel
theorem dL_acts_938 : decode cL_acts 938 = .ok (.bipush 10, 2) := by decide +kernel
theorem dL_acts_940 : decode cL_acts 940 = .ok (.iload 11, 2) := by decide +kernel
theorem dL_acts_942 : decode cL_acts 942 = .ok (.imul, 1) := by decide +kernel
theorem dL_acts_943 : decode cL_acts 943 = .ok (.iconst 5, 1) := by decide +kernel
theorem dL_acts_944 : decode cL_acts 944 = .ok (.iadd, 1) := by decide +kernel
theorem dL_acts_945 : decode cL_acts 945 = .ok (.iaload, 1) := by decide +kernel
theorem dL_acts_946 : decode cL_acts 946 = .ok (.if_icmp .ne 7, 3) := by decide +kernel
theorem dL_acts_949 : decode cL_acts 949 = .ok (.iconst 1, 1) := by decide +kernel
theorem dL_acts_950 : decode cL_acts 950 = .ok (.goto 4, 3) := by decide +kernel
theorem dL_acts_953 : decode cL_acts 953 = .ok (.iconst 0, 1) := by decide +kernel
theorem dL_acts_954 : decode cL_acts 954 = .ok (.ireturn, 1) := by decide +kernel
theorem dL_acts_955 : decode cL_acts 955 = .ok (.aload_n 1, 1) := by decide +kernel
theorem dL_acts_956 : decode cL_acts 956 = .ok (.iconst 3, 1) := by decide +kernel
theorem dL_acts_957 : decode cL_acts 957 = .ok (.iaload, 1) := by decide +kernel
theorem dL_acts_958 : decode cL_acts 958 = .ok (.iload 8, 2) := by decide +kernel
theorem dL_acts_960 : decode cL_acts 960 = .ok (.bipush 44, 2) := by decide +kernel
theorem dL_acts_962 : decode cL_acts 962 = .ok (.idiv, 1) := by decide +kernel
theorem dL_acts_963 : decode cL_acts 963 = .ok (.iconst 5, 1) := by decide +kernel
theorem dL_acts_964 : decode cL_acts 964 = .ok (.irem, 1) := by decide +kernel
theorem dL_acts_965 : decode cL_acts 965 = .ok (.iadd, 1) := by decide +kernel
theorem dL_acts_966 : decode cL_acts 966 = .ok (.istore 13, 2) := by decide +kernel
theorem dL_acts_968 : decode cL_acts 968 = .ok (.aload_n 1, 1) := by decide +kernel
theorem dL_acts_969 : decode cL_acts 969 = .ok (.iconst 2, 1) := by decide +kernel
