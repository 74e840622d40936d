/-! THE LAW: instructions and calls (of claim/NAMES.whole.lean.txt) -/
theorem dL_ends_21 : decode cL_ends 21 = .ok (.iaload, 1) := by decide +kernel
theorem dL_ends_22 : decode cL_ends 22 = .ok (.iastore, 1) := by decide +kernel
theorem dL_ends_23 : decode cL_ends 23 = .ok (.iinc 3 1, 3) := by decide +kernel
theorem dL_ends_26 : decode cL_ends 26 = .ok (.goto (-22), 3) := by decide +kernel
theorem dL_ends_29 : decode cL_ends 29 = .ok (.aload_n 0, 1) := by decide +kernel
theorem dL_ends_30 : decode cL_ends 30 = .ok (.iconst 2, 1) := by decide +kernel
theorem dL_ends_31 : decode cL_ends 31 = .ok (.dup2, 1) := by decide +kernel
theorem dL_ends_32 : decode cL_ends 32 = .ok (.iaload, 1) := by decide +kernel
theorem dL_ends_33 : decode cL_ends 33 = .ok (.iconst 1, 1) := by decide +kernel
theorem dL_ends_34 : decode cL_ends 34 = .ok (.isub, 1) := by decide +kernel
theorem dL_ends_35 : decode cL_ends 35 = .ok (.iastore, 1) := by decide +kernel
theorem dL_ends_36 : decode cL_ends 36 = .ok (.return_, 1) := by decide +kernel
theorem dL_onWay_0 : decode cL_onWay 0 = .ok (.iconst 0, 1) := by decide +kernel
theorem dL_onWay_1 : decode cL_onWay 1 = .ok (.istore_n 2, 1) := by decide +kernel
theorem dL_onWay_2 : decode cL_onWay 2 = .ok (.iconst 0, 1) := by decide +kernel
theorem dL_onWay_3 : decode cL_onWay 3 = .ok (.istore_n 3, 1) := by decide +kernel
theorem dL_onWay_4 : decode cL_onWay 4 = .ok (.iload_n 3, 1) := by decide +kernel
theorem dL_onWay_5 : decode cL_onWay 5 = .ok (.bipush 12, 2) := by decide +kernel
theorem dL_onWay_7 : decode cL_onWay 7 = .ok (.if_icmp .ge 20, 3) := by decide +kernel
theorem dL_onWay_10 : decode cL_onWay 10 = .ok (.iload_n 2, 1) := by decide +kernel
theorem dL_onWay_11 : decode cL_onWay 11 = .ok (.aload_n 0, 1) := by decide +kernel
theorem dL_onWay_12 : decode cL_onWay 12 = .ok (.bipush 12, 2) := by decide +kernel
theorem dL_onWay_14 : decode cL_onWay 14 = .ok (.iload_n 1, 1) := by decide +kernel
theorem dL_onWay_15 : decode cL_onWay 15 = .ok (.imul, 1) := by decide +kernel
theorem dL_onWay_16 : decode cL_onWay 16 = .ok (.iload_n 3, 1) := by decide +kernel
theorem dL_onWay_17 : decode cL_onWay 17 = .ok (.iadd, 1) := by decide +kernel
theorem dL_onWay_18 : decode cL_onWay 18 = .ok (.iaload, 1) := by decide +kernel
theorem dL_onWay_19 : decode cL_onWay 19 = .ok (.iadd, 1) := by decide +kernel
theorem dL_onWay_20 : decode cL_onWay 20 = .ok (.istore_n 2, 1) := by decide +kernel
theorem dL_onWay_21 : decode cL_onWay 21 = .ok (.iinc 3 1, 3) := by decide +kernel
theorem dL_onWay_24 : decode cL_onWay 24 = .ok (.goto (-20), 3) := by decide +kernel
theorem dL_onWay_27 : decode cL_onWay 27 = .ok (.iload_n 2, 1) := by decide +kernel
theorem dL_onWay_28 : decode cL_onWay 28 = .ok (.ireturn, 1) := by decide +kernel
theorem dL_refused_0 : decode cL_refused 0 = .ok (.aload_n 2, 1) := by decide +kernel
theorem dL_refused_1 : decode cL_refused 1 = .ok (.bipush 10, 2) := by decide +kernel
theorem dL_refused_3 : decode cL_refused 3 = .ok (.iload_n 3, 1) := by decide +kernel
theorem dL_refused_4 : decode cL_refused 4 = .ok (.imul, 1) := by decide +kernel
theorem dL_refused_5 : decode cL_refused 5 = .ok (.iaload, 1) := by decide +kernel
theorem dL_refused_6 : decode cL_refused 6 = .ok (.istore 5, 2) := by decide +kernel
theorem dL_refused_8 : decode cL_refused 8 = .ok (.aload_n 2, 1) := by decide +kernel
theorem dL_refused_9 : decode cL_refused 9 = .ok (.bipush 10, 2) := by decide +kernel
theorem dL_refused_11 : decode cL_refused 11 = .ok (.iload_n 3, 1) := by decide +kernel
theorem dL_refused_12 : decode cL_refused 12 = .ok (.imul, 1) := by decide +kernel
theorem dL_refused_13 : decode cL_refused 13 = .ok (.iconst 1, 1) := by decide +kernel
theorem dL_refused_14 : decode cL_refused 14 = .ok (.iadd, 1) := by decide +kernel
theorem dL_refused_15 : decode cL_refused 15 = .ok (.iaload, 1) := by decide +kernel
theorem dL_refused_16 : decode cL_refused 16 = .ok (.istore 6, 2) := by decide +kernel
theorem dL_refused_18 : decode cL_refused 18 = .ok (.aload_n 1, 1) := by decide +kernel
theorem dL_refused_19 : decode cL_refused 19 = .ok (.bipush 6, 2) := by decide +kernel
theorem dL_refused_21 : decode cL_refused 21 = .ok (.iload 5, 2) := by decide +kernel
theorem dL_refused_23 : decode cL_refused 23 = .ok (.imul, 1) := by decide +kernel
theorem dL_refused_24 : decode cL_refused 24 = .ok (.iconst 2, 1) := by decide +kernel
theorem dL_refused_25 : decode cL_refused 25 = .ok (.iadd, 1) := by decide +kernel
theorem dL_refused_26 : decode cL_refused 26 = .ok (.iaload, 1) := by decide +kernel
theorem dL_refused_27 : decode cL_refused 27 = .ok (.aload_n 1, 1) := by decide +kernel
theorem dL_refused_28 : decode cL_refused 28 = .ok (.bipush 6, 2) := by decide +kernel
theorem dL_refused_30 : decode cL_refused 30 = .ok (.iload 5, 2) := by decide +kernel
theorem dL_refused_32 : decode cL_refused 32 = .ok (.imul, 1) := by decide +kernel
theorem dL_refused_33 : decode cL_refused 33 = .ok (.iaload, 1) := by decide +kernel
theorem dL_refused_34 : decode cL_refused 34 = .ok (.idiv, 1) := by decide +kernel
theorem dL_refused_35 : decode cL_refused 35 = .ok (.iload 6, 2) := by decide +kernel
theorem dL_refused_37 : decode cL_refused 37 = .ok (.bipush 8, 2) := by decide +kernel
theorem dL_refused_39 : decode cL_refused 39 = .ok (.if_icmp .ne 7, 3) := by decide +kernel
theorem dL_refused_42 : decode cL_refused 42 = .ok (.iconst 0, 1) := by decide +kernel
theorem dL_refused_43 : decode cL_refused 43 = .ok (.goto 20, 3) := by decide +kernel
theorem dL_refused_46 : decode cL_refused 46 = .ok (.aload_n 1, 1) := by decide +kernel
theorem dL_refused_47 : decode cL_refused 47 = .ok (.bipush 6, 2) := by decide +kernel
theorem dL_refused_49 : decode cL_refused 49 = .ok (.iload 6, 2) := by decide +kernel
theorem dL_refused_51 : decode cL_refused 51 = .ok (.imul, 1) := by decide +kernel
theorem dL_refused_52 : decode cL_refused 52 = .ok (.iconst 2, 1) := by decide +kernel
theorem dL_refused_53 : decode cL_refused 53 = .ok (.iadd, 1) := by decide +kernel
theorem dL_refused_54 : decode cL_refused 54 = .ok (.iaload, 1) := by decide +kernel
theorem dL_refused_55 : decode cL_refused 55 = .ok (.aload_n 1, 1) := by decide +kernel
theorem dL_refused_56 : decode cL_refused 56 = .ok (.bipush 6, 2) := by decide +kernel
theorem dL_refused_58 : decode cL_refused 58 = .ok (.iload 6, 2) := by decide +kernel
theorem dL_refused_60 : decode cL_refused 60 = .ok (.imul, 1) := by decide +kernel
theorem dL_refused_61 : decode cL_refused 61 = .ok (.iaload, 1) := by decide +kernel
theorem dL_refused_62 : decode cL_refused 62 = .ok (.idiv, 1) := by decide +kernel
theorem dL_refused_63 : decode cL_refused 63 = .ok (.isub, 1) := by decide +kernel
theorem dL_refused_64 : decode cL_refused 64 = .ok (.istore 7, 2) := by decide +kernel
theorem dL_refused_66 : decode cL_refused 66 = .ok (.iload 7, 2) := by decide +kernel
theorem dL_refused_68 : decode cL_refused 68 = .ok (.aload_n 0, 1) := by decide +kernel
theorem dL_refused_69 : decode cL_refused 69 = .ok (.bipush 7, 2) := by decide +kernel
theorem dL_refused_71 : decode cL_refused 71 = .ok (.iaload, 1) := by decide +kernel
theorem dL_refused_72 : decode cL_refused 72 = .ok (.if_icmp .gt 13, 3) := by decide +kernel
theorem dL_refused_75 : decode cL_refused 75 = .ok (.iload 7, 2) := by decide +kernel
theorem dL_refused_77 : decode cL_refused 77 = .ok (.ineg, 1) := by decide +kernel
theorem dL_refused_78 : decode cL_refused 78 = .ok (.aload_n 0, 1) := by decide +kernel
theorem dL_refused_79 : decode cL_refused 79 = .ok (.bipush 7, 2) := by decide +kernel
theorem dL_refused_81 : decode cL_refused 81 = .ok (.iaload, 1) := by decide +kernel
theorem dL_refused_82 : decode cL_refused 82 = .ok (.if_icmp .le 7, 3) := by decide +kernel
theorem dL_refused_85 : decode cL_refused 85 = .ok (.iconst 1, 1) := by decide +kernel
theorem dL_refused_86 : decode cL_refused 86 = .ok (.goto 4, 3) := by decide +kernel
theorem dL_refused_89 : decode cL_refused 89 = .ok (.iconst 0, 1) := by decide +kernel
theorem dL_refused_90 : decode cL_refused 90 = .ok (.istore 8, 2) := by decide +kernel
theorem dL_refused_92 : decode cL_refused 92 = .ok (.aload_n 2, 1) := by decide +kernel
theorem dL_refused_93 : decode cL_refused 93 = .ok (.bipush 10, 2) := by decide +kernel
theorem dL_refused_95 : decode cL_refused 95 = .ok (.iload_n 3, 1) := by decide +kernel
theorem dL_refused_96 : decode cL_refused 96 = .ok (.imul, 1) := by decide +kernel
theorem dL_refused_97 : decode cL_refused 97 = .ok (.bipush 7, 2) := by decide +kernel
theorem dL_refused_99 : decode cL_refused 99 = .ok (.iadd, 1) := by decide +kernel
theorem dL_refused_100 : decode cL_refused 100 = .ok (.iaload, 1) := by decide +kernel
theorem dL_refused_101 : decode cL_refused 101 = .ok (.iconst 1, 1) := by decide +kernel
theorem dL_refused_102 : decode cL_refused 102 = .ok (.if_icmp .ne 7, 3) := by decide +kernel
theorem dL_refused_105 : decode cL_refused 105 = .ok (.iconst 1, 1) := by decide +kernel
theorem dL_refused_106 : decode cL_refused 106 = .ok (.goto 44, 3) := by decide +kernel
theorem dL_refused_109 : decode cL_refused 109 = .ok (.aload_n 2, 1) := by decide +kernel
theorem dL_refused_110 : decode cL_refused 110 = .ok (.bipush 10, 2) := by decide +kernel
theorem dL_refused_112 : decode cL_refused 112 = .ok (.iload_n 3, 1) := by decide +kernel
theorem dL_refused_113 : decode cL_refused 113 = .ok (.imul, 1) := by decide +kernel
theorem dL_refused_114 : decode cL_refused 114 = .ok (.bipush 6, 2) := by decide +kernel
theorem dL_refused_116 : decode cL_refused 116 = .ok (.iadd, 1) := by decide +kernel
theorem dL_refused_117 : decode cL_refused 117 = .ok (.iaload, 1) := by decide +kernel
theorem dL_refused_118 : decode cL_refused 118 = .ok (.iload 4, 2) := by decide +kernel
theorem dL_refused_120 : decode cL_refused 120 = .ok (.if_icmp .ne 7, 3) := by decide +kernel
theorem dL_refused_123 : decode cL_refused 123 = .ok (.iconst 2, 1) := by decide +kernel
theorem dL_refused_124 : decode cL_refused 124 = .ok (.goto 26, 3) := by decide +kernel
theorem dL_refused_127 : decode cL_refused 127 = .ok (.iload 4, 2) := by decide +kernel
theorem dL_refused_129 : decode cL_refused 129 = .ok (.aload_n 2, 1) := by decide +kernel
theorem dL_refused_130 : decode cL_refused 130 = .ok (.bipush 10, 2) := by decide +kernel
theorem dL_refused_132 : decode cL_refused 132 = .ok (.iload_n 3, 1) := by decide +kernel
theorem dL_refused_133 : decode cL_refused 133 = .ok (.imul, 1) := by decide +kernel
theorem dL_refused_134 : decode cL_refused 134 = .ok (.iconst 5, 1) := by decide +kernel
theorem dL_refused_135 : decode cL_refused 135 = .ok (.iadd, 1) := by decide +kernel
theorem dL_refused_136 : decode cL_refused 136 = .ok (.iaload, 1) := by decide +kernel
theorem dL_refused_137 : decode cL_refused 137 = .ok (.if_icmp .le 12, 3) := by decide +kernel
theorem dL_refused_140 : decode cL_refused 140 = .ok (.iload 8, 2) := by decide +kernel
theorem dL_refused_142 : decode cL_refused 142 = .ok (.ifCond .eq 7, 3) := by decide +kernel
theorem dL_refused_145 : decode cL_refused 145 = .ok (.iconst 3, 1) := by decide +kernel
theorem dL_refused_146 : decode cL_refused 146 = .ok (.goto 4, 3) := by decide +kernel
theorem dL_refused_149 : decode cL_refused 149 = .ok (.iconst 0, 1) := by decide +kernel
theorem dL_refused_150 : decode cL_refused 150 = .ok (.ireturn, 1) := by decide +kernel
theorem dL_puts_0 : decode cL_puts 0 = .ok (.aload_n 0, 1) := by decide +kernel
theorem dL_puts_1 : decode cL_puts 1 = .ok (.iconst 2, 1) := by decide +kernel
theorem dL_puts_2 : decode cL_puts 2 = .ok (.iaload, 1) := by decide +kernel
theorem dL_puts_3 : decode cL_puts 3 = .ok (.istore 7, 2) := by decide +kernel
theorem dL_puts_5 : decode cL_puts 5 = .ok (.iload 7, 2) := by decide +kernel
theorem dL_puts_7 : decode cL_puts 7 = .ok (.ifCond .le 56, 3) := by decide +kernel
theorem dL_puts_10 : decode cL_puts 10 = .ok (.aload_n 1, 1) := by decide +kernel
theorem dL_puts_11 : decode cL_puts 11 = .ok (.iconst 5, 1) := by decide +kernel
theorem dL_puts_12 : decode cL_puts 12 = .ok (.iload 7, 2) := by decide +kernel
theorem dL_puts_14 : decode cL_puts 14 = .ok (.imul, 1) := by decide +kernel
theorem dL_puts_15 : decode cL_puts 15 = .ok (.iconst 5, 1) := by decide +kernel
theorem dL_puts_16 : decode cL_puts 16 = .ok (.isub, 1) := by decide +kernel
theorem dL_puts_17 : decode cL_puts 17 = .ok (.iaload, 1) := by decide +kernel
theorem dL_puts_18 : decode cL_puts 18 = .ok (.iload_n 2, 1) := by decide +kernel
theorem dL_puts_19 : decode cL_puts 19 = .ok (.if_icmp .le 44, 3) := by decide +kernel
theorem dL_puts_22 : decode cL_puts 22 = .ok (.iconst 0, 1) := by decide +kernel
theorem dL_puts_23 : decode cL_puts 23 = .ok (.istore 8, 2) := by decide +kernel
theorem dL_puts_25 : decode cL_puts 25 = .ok (.iload 8, 2) := by decide +kernel
