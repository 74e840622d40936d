/-! THE LAW: instructions and calls (of claim/NAMES.whole.lean.txt) -/
theorem dL_puts_27 : decode cL_puts 27 = .ok (.iconst 5, 1) := by decide +kernel
theorem dL_puts_28 : decode cL_puts 28 = .ok (.if_icmp .ge 29, 3) := by decide +kernel
theorem dL_puts_31 : decode cL_puts 31 = .ok (.aload_n 1, 1) := by decide +kernel
theorem dL_puts_32 : decode cL_puts 32 = .ok (.iconst 5, 1) := by decide +kernel
theorem dL_puts_33 : decode cL_puts 33 = .ok (.iload 7, 2) := by decide +kernel
theorem dL_puts_35 : decode cL_puts 35 = .ok (.imul, 1) := by decide +kernel
theorem dL_puts_36 : decode cL_puts 36 = .ok (.iload 8, 2) := by decide +kernel
theorem dL_puts_38 : decode cL_puts 38 = .ok (.iadd, 1) := by decide +kernel
theorem dL_puts_39 : decode cL_puts 39 = .ok (.aload_n 1, 1) := by decide +kernel
theorem dL_puts_40 : decode cL_puts 40 = .ok (.iconst 5, 1) := by decide +kernel
theorem dL_puts_41 : decode cL_puts 41 = .ok (.iload 7, 2) := by decide +kernel
theorem dL_puts_43 : decode cL_puts 43 = .ok (.imul, 1) := by decide +kernel
theorem dL_puts_44 : decode cL_puts 44 = .ok (.iconst 5, 1) := by decide +kernel
theorem dL_puts_45 : decode cL_puts 45 = .ok (.isub, 1) := by decide +kernel
theorem dL_puts_46 : decode cL_puts 46 = .ok (.iload 8, 2) := by decide +kernel
theorem dL_puts_48 : decode cL_puts 48 = .ok (.iadd, 1) := by decide +kernel
theorem dL_puts_49 : decode cL_puts 49 = .ok (.iaload, 1) := by decide +kernel
theorem dL_puts_50 : decode cL_puts 50 = .ok (.iastore, 1) := by decide +kernel
theorem dL_puts_51 : decode cL_puts 51 = .ok (.iinc 8 1, 3) := by decide +kernel
theorem dL_puts_54 : decode cL_puts 54 = .ok (.goto (-29), 3) := by decide +kernel
theorem dL_puts_57 : decode cL_puts 57 = .ok (.iinc 7 (-1), 3) := by decide +kernel
theorem dL_puts_60 : decode cL_puts 60 = .ok (.goto (-55), 3) := by decide +kernel
theorem dL_puts_63 : decode cL_puts 63 = .ok (.aload_n 1, 1) := by decide +kernel
theorem dL_puts_64 : decode cL_puts 64 = .ok (.iconst 5, 1) := by decide +kernel
theorem dL_puts_65 : decode cL_puts 65 = .ok (.iload 7, 2) := by decide +kernel
theorem dL_puts_67 : decode cL_puts 67 = .ok (.imul, 1) := by decide +kernel
theorem dL_puts_68 : decode cL_puts 68 = .ok (.iload_n 2, 1) := by decide +kernel
theorem dL_puts_69 : decode cL_puts 69 = .ok (.iastore, 1) := by decide +kernel
theorem dL_puts_70 : decode cL_puts 70 = .ok (.aload_n 1, 1) := by decide +kernel
theorem dL_puts_71 : decode cL_puts 71 = .ok (.iconst 5, 1) := by decide +kernel
theorem dL_puts_72 : decode cL_puts 72 = .ok (.iload 7, 2) := by decide +kernel
theorem dL_puts_74 : decode cL_puts 74 = .ok (.imul, 1) := by decide +kernel
theorem dL_puts_75 : decode cL_puts 75 = .ok (.iconst 1, 1) := by decide +kernel
theorem dL_puts_76 : decode cL_puts 76 = .ok (.iadd, 1) := by decide +kernel
theorem dL_puts_77 : decode cL_puts 77 = .ok (.iload_n 3, 1) := by decide +kernel
theorem dL_puts_78 : decode cL_puts 78 = .ok (.iastore, 1) := by decide +kernel
theorem dL_puts_79 : decode cL_puts 79 = .ok (.aload_n 1, 1) := by decide +kernel
theorem dL_puts_80 : decode cL_puts 80 = .ok (.iconst 5, 1) := by decide +kernel
theorem dL_puts_81 : decode cL_puts 81 = .ok (.iload 7, 2) := by decide +kernel
theorem dL_puts_83 : decode cL_puts 83 = .ok (.imul, 1) := by decide +kernel
theorem dL_puts_84 : decode cL_puts 84 = .ok (.iconst 2, 1) := by decide +kernel
theorem dL_puts_85 : decode cL_puts 85 = .ok (.iadd, 1) := by decide +kernel
theorem dL_puts_86 : decode cL_puts 86 = .ok (.iload 4, 2) := by decide +kernel
theorem dL_puts_88 : decode cL_puts 88 = .ok (.iastore, 1) := by decide +kernel
theorem dL_puts_89 : decode cL_puts 89 = .ok (.aload_n 1, 1) := by decide +kernel
theorem dL_puts_90 : decode cL_puts 90 = .ok (.iconst 5, 1) := by decide +kernel
theorem dL_puts_91 : decode cL_puts 91 = .ok (.iload 7, 2) := by decide +kernel
theorem dL_puts_93 : decode cL_puts 93 = .ok (.imul, 1) := by decide +kernel
theorem dL_puts_94 : decode cL_puts 94 = .ok (.iconst 3, 1) := by decide +kernel
theorem dL_puts_95 : decode cL_puts 95 = .ok (.iadd, 1) := by decide +kernel
theorem dL_puts_96 : decode cL_puts 96 = .ok (.iload 5, 2) := by decide +kernel
theorem dL_puts_98 : decode cL_puts 98 = .ok (.iastore, 1) := by decide +kernel
theorem dL_puts_99 : decode cL_puts 99 = .ok (.aload_n 1, 1) := by decide +kernel
theorem dL_puts_100 : decode cL_puts 100 = .ok (.iconst 5, 1) := by decide +kernel
theorem dL_puts_101 : decode cL_puts 101 = .ok (.iload 7, 2) := by decide +kernel
theorem dL_puts_103 : decode cL_puts 103 = .ok (.imul, 1) := by decide +kernel
theorem dL_puts_104 : decode cL_puts 104 = .ok (.iconst 4, 1) := by decide +kernel
theorem dL_puts_105 : decode cL_puts 105 = .ok (.iadd, 1) := by decide +kernel
theorem dL_puts_106 : decode cL_puts 106 = .ok (.iload 6, 2) := by decide +kernel
theorem dL_puts_108 : decode cL_puts 108 = .ok (.iastore, 1) := by decide +kernel
theorem dL_puts_109 : decode cL_puts 109 = .ok (.aload_n 0, 1) := by decide +kernel
theorem dL_puts_110 : decode cL_puts 110 = .ok (.iconst 2, 1) := by decide +kernel
theorem dL_puts_111 : decode cL_puts 111 = .ok (.dup2, 1) := by decide +kernel
theorem dL_puts_112 : decode cL_puts 112 = .ok (.iaload, 1) := by decide +kernel
theorem dL_puts_113 : decode cL_puts 113 = .ok (.iconst 1, 1) := by decide +kernel
theorem dL_puts_114 : decode cL_puts 114 = .ok (.iadd, 1) := by decide +kernel
theorem dL_puts_115 : decode cL_puts 115 = .ok (.iastore, 1) := by decide +kernel
theorem dL_puts_116 : decode cL_puts 116 = .ok (.aload_n 0, 1) := by decide +kernel
theorem dL_puts_117 : decode cL_puts 117 = .ok (.iconst 5, 1) := by decide +kernel
theorem dL_puts_118 : decode cL_puts 118 = .ok (.dup2, 1) := by decide +kernel
theorem dL_puts_119 : decode cL_puts 119 = .ok (.iaload, 1) := by decide +kernel
theorem dL_puts_120 : decode cL_puts 120 = .ok (.iload 5, 2) := by decide +kernel
theorem dL_puts_122 : decode cL_puts 122 = .ok (.iload 6, 2) := by decide +kernel
theorem dL_puts_124 : decode cL_puts 124 = .ok (.imul, 1) := by decide +kernel
theorem dL_puts_125 : decode cL_puts 125 = .ok (.iadd, 1) := by decide +kernel
theorem dL_puts_126 : decode cL_puts 126 = .ok (.iastore, 1) := by decide +kernel
theorem dL_puts_127 : decode cL_puts 127 = .ok (.return_, 1) := by decide +kernel
theorem dL_level_0 : decode cL_level 0 = .ok (.iconst (-1), 1) := by decide +kernel
theorem dL_level_1 : decode cL_level 1 = .ok (.istore_n 1, 1) := by decide +kernel
theorem dL_level_2 : decode cL_level 2 = .ok (.iload_n 0, 1) := by decide +kernel
theorem dL_level_3 : decode cL_level 3 = .ok (.istore_n 2, 1) := by decide +kernel
theorem dL_level_4 : decode cL_level 4 = .ok (.iload_n 2, 1) := by decide +kernel
theorem dL_level_5 : decode cL_level 5 = .ok (.ifCond .le 13, 3) := by decide +kernel
theorem dL_level_8 : decode cL_level 8 = .ok (.iinc 1 1, 3) := by decide +kernel
theorem dL_level_11 : decode cL_level 11 = .ok (.iload_n 2, 1) := by decide +kernel
theorem dL_level_12 : decode cL_level 12 = .ok (.iconst 2, 1) := by decide +kernel
theorem dL_level_13 : decode cL_level 13 = .ok (.idiv, 1) := by decide +kernel
theorem dL_level_14 : decode cL_level 14 = .ok (.istore_n 2, 1) := by decide +kernel
theorem dL_level_15 : decode cL_level 15 = .ok (.goto (-11), 3) := by decide +kernel
theorem dL_level_18 : decode cL_level 18 = .ok (.iload_n 1, 1) := by decide +kernel
theorem dL_level_19 : decode cL_level 19 = .ok (.ifCond .ge 8, 3) := by decide +kernel
theorem dL_level_22 : decode cL_level 22 = .ok (.bipush (-4), 2) := by decide +kernel
theorem dL_level_24 : decode cL_level 24 = .ok (.goto 4, 3) := by decide +kernel
theorem dL_level_27 : decode cL_level 27 = .ok (.iload_n 1, 1) := by decide +kernel
theorem dL_level_28 : decode cL_level 28 = .ok (.ireturn, 1) := by decide +kernel
