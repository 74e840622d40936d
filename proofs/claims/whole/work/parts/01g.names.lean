theorem dX8_count_111 : decode cX8_count 111 = .ok (.aload_n 0, 1) := by decide +kernel
theorem dX8_count_112 : decode cX8_count 112 = .ok (.getfield 7, 3) := by decide +kernel
theorem dX8_count_115 : decode cX8_count 115 = .ok (.iconst 2, 1) := by decide +kernel
theorem dX8_count_116 : decode cX8_count 116 = .ok (.invokestatic 97, 3) := by decide +kernel
theorem dX8_count_119 : decode cX8_count 119 = .ok (.ireturn, 1) := by decide +kernel
theorem dX8_count_120 : decode cX8_count 120 = .ok (.aload_n 0, 1) := by decide +kernel
theorem dX8_count_121 : decode cX8_count 121 = .ok (.getfield 7, 3) := by decide +kernel
theorem dX8_count_124 : decode cX8_count 124 = .ok (.invokestatic 100, 3) := by decide +kernel
theorem dX8_count_127 : decode cX8_count 127 = .ok (.ireturn, 1) := by decide +kernel
theorem dX8_count_128 : decode cX8_count 128 = .ok (.aload_n 0, 1) := by decide +kernel
theorem dX8_count_129 : decode cX8_count 129 = .ok (.getfield 7, 3) := by decide +kernel
theorem dX8_count_132 : decode cX8_count 132 = .ok (.iconst 3, 1) := by decide +kernel
theorem dX8_count_133 : decode cX8_count 133 = .ok (.invokestatic 97, 3) := by decide +kernel
theorem dX8_count_136 : decode cX8_count 136 = .ok (.ireturn, 1) := by decide +kernel
theorem dX8_count_137 : decode cX8_count 137 = .ok (.aload_n 0, 1) := by decide +kernel
theorem dX8_count_138 : decode cX8_count 138 = .ok (.getfield 7, 3) := by decide +kernel
theorem dX8_count_141 : decode cX8_count 141 = .ok (.iconst 4, 1) := by decide +kernel
theorem dX8_count_142 : decode cX8_count 142 = .ok (.iaload, 1) := by decide +kernel
theorem dX8_count_143 : decode cX8_count 143 = .ok (.ireturn, 1) := by decide +kernel
theorem dX8_count_144 : decode cX8_count 144 = .ok (.aload_n 0, 1) := by decide +kernel
theorem dX8_count_145 : decode cX8_count 145 = .ok (.getfield 7, 3) := by decide +kernel
theorem dX8_count_148 : decode cX8_count 148 = .ok (.iconst 4, 1) := by decide +kernel
theorem dX8_count_149 : decode cX8_count 149 = .ok (.invokestatic 97, 3) := by decide +kernel
theorem dX8_count_152 : decode cX8_count 152 = .ok (.ireturn, 1) := by decide +kernel
theorem dX8_count_153 : decode cX8_count 153 = .ok (.aload_n 0, 1) := by decide +kernel
theorem dX8_count_154 : decode cX8_count 154 = .ok (.getfield 7, 3) := by decide +kernel
theorem dX8_count_157 : decode cX8_count 157 = .ok (.iconst 5, 1) := by decide +kernel
theorem dX8_count_158 : decode cX8_count 158 = .ok (.iaload, 1) := by decide +kernel
theorem dX8_count_159 : decode cX8_count 159 = .ok (.ireturn, 1) := by decide +kernel
theorem dX8_count_160 : decode cX8_count 160 = .ok (.aload_n 0, 1) := by decide +kernel
theorem dX8_count_161 : decode cX8_count 161 = .ok (.getfield 7, 3) := by decide +kernel
theorem dX8_count_164 : decode cX8_count 164 = .ok (.bipush 6, 2) := by decide +kernel
theorem dX8_count_166 : decode cX8_count 166 = .ok (.iaload, 1) := by decide +kernel
theorem dX8_count_167 : decode cX8_count 167 = .ok (.ireturn, 1) := by decide +kernel
theorem dX8_count_168 : decode cX8_count 168 = .ok (.aload_n 0, 1) := by decide +kernel
theorem dX8_count_169 : decode cX8_count 169 = .ok (.getfield 32, 3) := by decide +kernel
theorem dX8_count_172 : decode cX8_count 172 = .ok (.ireturn, 1) := by decide +kernel
theorem dX8_count_173 : decode cX8_count 173 = .ok (.aload_n 0, 1) := by decide +kernel
theorem dX8_count_174 : decode cX8_count 174 = .ok (.getfield 104, 3) := by decide +kernel
theorem dX8_count_177 : decode cX8_count 177 = .ok (.ireturn, 1) := by decide +kernel
theorem dX8_count_178 : decode cX8_count 178 = .ok (.aload_n 0, 1) := by decide +kernel
theorem dX8_count_179 : decode cX8_count 179 = .ok (.getfield 7, 3) := by decide +kernel
theorem dX8_count_182 : decode cX8_count 182 = .ok (.bipush 7, 2) := by decide +kernel
theorem dX8_count_184 : decode cX8_count 184 = .ok (.iload_n 1, 1) := by decide +kernel
theorem dX8_count_185 : decode cX8_count 185 = .ok (.iadd, 1) := by decide +kernel
theorem dX8_count_186 : decode cX8_count 186 = .ok (.bipush 20, 2) := by decide +kernel
theorem dX8_count_188 : decode cX8_count 188 = .ok (.isub, 1) := by decide +kernel
theorem dX8_count_189 : decode cX8_count 189 = .ok (.iaload, 1) := by decide +kernel
theorem dX8_count_190 : decode cX8_count 190 = .ok (.ireturn, 1) := by decide +kernel
theorem dX8_count_191 : decode cX8_count 191 = .ok (.iconst (-1), 1) := by decide +kernel
theorem dX8_count_192 : decode cX8_count 192 = .ok (.ireturn, 1) := by decide +kernel
theorem dX8_undo_0 : decode cX8_undo 0 = .ok (.aload_n 0, 1) := by decide +kernel
theorem dX8_undo_1 : decode cX8_undo 1 = .ok (.getfield 32, 3) := by decide +kernel
theorem dX8_undo_4 : decode cX8_undo 4 = .ok (.ifCond .ne 6, 3) := by decide +kernel
theorem dX8_undo_7 : decode cX8_undo 7 = .ok (.bipush (-2), 2) := by decide +kernel
theorem dX8_undo_9 : decode cX8_undo 9 = .ok (.ireturn, 1) := by decide +kernel
theorem dX8_undo_10 : decode cX8_undo 10 = .ok (.aload_n 0, 1) := by decide +kernel
theorem dX8_undo_11 : decode cX8_undo 11 = .ok (.dup, 1) := by decide +kernel
theorem dX8_undo_12 : decode cX8_undo 12 = .ok (.getfield 32, 3) := by decide +kernel
theorem dX8_undo_15 : decode cX8_undo 15 = .ok (.iconst 1, 1) := by decide +kernel
theorem dX8_undo_16 : decode cX8_undo 16 = .ok (.isub, 1) := by decide +kernel
theorem dX8_undo_17 : decode cX8_undo 17 = .ok (.putfield 32, 3) := by decide +kernel
theorem dX8_undo_20 : decode cX8_undo 20 = .ok (.iconst 0, 1) := by decide +kernel
theorem dX8_undo_21 : decode cX8_undo 21 = .ok (.istore_n 1, 1) := by decide +kernel
theorem dX8_undo_22 : decode cX8_undo 22 = .ok (.iload_n 1, 1) := by decide +kernel
theorem dX8_undo_23 : decode cX8_undo 23 = .ok (.sipush 657, 3) := by decide +kernel
theorem dX8_undo_26 : decode cX8_undo 26 = .ok (.if_icmp .ge 30, 3) := by decide +kernel
theorem dX8_undo_29 : decode cX8_undo 29 = .ok (.aload_n 0, 1) := by decide +kernel
theorem dX8_undo_30 : decode cX8_undo 30 = .ok (.getfield 7, 3) := by decide +kernel
theorem dX8_undo_33 : decode cX8_undo 33 = .ok (.iload_n 1, 1) := by decide +kernel
theorem dX8_undo_34 : decode cX8_undo 34 = .ok (.aload_n 0, 1) := by decide +kernel
theorem dX8_undo_35 : decode cX8_undo 35 = .ok (.getfield 16, 3) := by decide +kernel
theorem dX8_undo_38 : decode cX8_undo 38 = .ok (.sipush 657, 3) := by decide +kernel
theorem dX8_undo_41 : decode cX8_undo 41 = .ok (.aload_n 0, 1) := by decide +kernel
theorem dX8_undo_42 : decode cX8_undo 42 = .ok (.getfield 32, 3) := by decide +kernel
theorem dX8_undo_45 : decode cX8_undo 45 = .ok (.imul, 1) := by decide +kernel
theorem dX8_undo_46 : decode cX8_undo 46 = .ok (.iload_n 1, 1) := by decide +kernel
theorem dX8_undo_47 : decode cX8_undo 47 = .ok (.iadd, 1) := by decide +kernel
theorem dX8_undo_48 : decode cX8_undo 48 = .ok (.iaload, 1) := by decide +kernel
theorem dX8_undo_49 : decode cX8_undo 49 = .ok (.iastore, 1) := by decide +kernel
theorem dX8_undo_50 : decode cX8_undo 50 = .ok (.iinc 1 1, 3) := by decide +kernel
theorem dX8_undo_53 : decode cX8_undo 53 = .ok (.goto (-31), 3) := by decide +kernel
theorem dX8_undo_56 : decode cX8_undo 56 = .ok (.aload_n 0, 1) := by decide +kernel
theorem dX8_undo_57 : decode cX8_undo 57 = .ok (.getfield 32, 3) := by decide +kernel
theorem dX8_undo_60 : decode cX8_undo 60 = .ok (.ireturn, 1) := by decide +kernel
set_option maxRecDepth 20000 in
theorem ggX8_puts_X8_entry : GoodIn wsX8_puts wsX8_entry := goodIn_r _ [5] (by decide +kernel) (by decide +kernel)
set_option maxRecDepth 20000 in
theorem gX8_puts_X8_entry : GoodIn wsX8_puts (va_wsS RX8 72 yX8_entry wsX8_entry) := goodIn_app (goodIn_of _ (by decide +kernel)) ggX8_puts_X8_entry
theorem dX8_puts_0 : decode cX8_puts 0 = .ok (.iconst 0, 1) := by decide +kernel
theorem dX8_puts_1 : decode cX8_puts 1 = .ok (.istore 6, 2) := by decide +kernel
theorem dX8_puts_3 : decode cX8_puts 3 = .ok (.iload 6, 2) := by decide +kernel
theorem dX8_puts_5 : decode cX8_puts 5 = .ok (.aload_n 0, 1) := by decide +kernel
theorem dX8_puts_6 : decode cX8_puts 6 = .ok (.getfield 7, 3) := by decide +kernel
theorem dX8_puts_9 : decode cX8_puts 9 = .ok (.iconst 2, 1) := by decide +kernel
theorem dX8_puts_10 : decode cX8_puts 10 = .ok (.iaload, 1) := by decide +kernel
theorem dX8_puts_11 : decode cX8_puts 11 = .ok (.if_icmp .ge 23, 3) := by decide +kernel
theorem dX8_puts_14 : decode cX8_puts 14 = .ok (.aload_n 0, 1) := by decide +kernel
theorem dX8_puts_15 : decode cX8_puts 15 = .ok (.getfield 7, 3) := by decide +kernel
theorem dX8_puts_18 : decode cX8_puts 18 = .ok (.iload 6, 2) := by decide +kernel
theorem dX8_puts_20 : decode cX8_puts 20 = .ok (.iconst 0, 1) := by decide +kernel
theorem dX8_puts_21 : decode cX8_puts 21 = .ok (.invokestatic 72, 3) := by decide +kernel
theorem dX8_puts_24 : decode cX8_puts 24 = .ok (.iload_n 1, 1) := by decide +kernel
theorem dX8_puts_25 : decode cX8_puts 25 = .ok (.if_icmp .gt 9, 3) := by decide +kernel
theorem dX8_puts_28 : decode cX8_puts 28 = .ok (.iinc 6 1, 3) := by decide +kernel
theorem dX8_puts_31 : decode cX8_puts 31 = .ok (.goto (-28), 3) := by decide +kernel
theorem dX8_puts_34 : decode cX8_puts 34 = .ok (.sipush 321, 3) := by decide +kernel
theorem dX8_puts_37 : decode cX8_puts 37 = .ok (.iconst 5, 1) := by decide +kernel
theorem dX8_puts_38 : decode cX8_puts 38 = .ok (.aload_n 0, 1) := by decide +kernel
theorem dX8_puts_39 : decode cX8_puts 39 = .ok (.getfield 7, 3) := by decide +kernel
theorem dX8_puts_42 : decode cX8_puts 42 = .ok (.iconst 2, 1) := by decide +kernel
theorem dX8_puts_43 : decode cX8_puts 43 = .ok (.iaload, 1) := by decide +kernel
theorem dX8_puts_44 : decode cX8_puts 44 = .ok (.imul, 1) := by decide +kernel
theorem dX8_puts_45 : decode cX8_puts 45 = .ok (.iadd, 1) := by decide +kernel
theorem dX8_puts_46 : decode cX8_puts 46 = .ok (.iconst 1, 1) := by decide +kernel
theorem dX8_puts_47 : decode cX8_puts 47 = .ok (.isub, 1) := by decide +kernel
theorem dX8_puts_48 : decode cX8_puts 48 = .ok (.istore 7, 2) := by decide +kernel
theorem dX8_puts_50 : decode cX8_puts 50 = .ok (.iload 7, 2) := by decide +kernel
theorem dX8_puts_52 : decode cX8_puts 52 = .ok (.sipush 321, 3) := by decide +kernel
theorem dX8_puts_55 : decode cX8_puts 55 = .ok (.iconst 5, 1) := by decide +kernel
theorem dX8_puts_56 : decode cX8_puts 56 = .ok (.iload 6, 2) := by decide +kernel
theorem dX8_puts_58 : decode cX8_puts 58 = .ok (.imul, 1) := by decide +kernel
theorem dX8_puts_59 : decode cX8_puts 59 = .ok (.iadd, 1) := by decide +kernel
theorem dX8_puts_60 : decode cX8_puts 60 = .ok (.if_icmp .lt 25, 3) := by decide +kernel
theorem dX8_puts_63 : decode cX8_puts 63 = .ok (.aload_n 0, 1) := by decide +kernel
theorem dX8_puts_64 : decode cX8_puts 64 = .ok (.getfield 7, 3) := by decide +kernel
theorem dX8_puts_67 : decode cX8_puts 67 = .ok (.iload 7, 2) := by decide +kernel
theorem dX8_puts_69 : decode cX8_puts 69 = .ok (.iconst 5, 1) := by decide +kernel
theorem dX8_puts_70 : decode cX8_puts 70 = .ok (.iadd, 1) := by decide +kernel
theorem dX8_puts_71 : decode cX8_puts 71 = .ok (.aload_n 0, 1) := by decide +kernel
theorem dX8_puts_72 : decode cX8_puts 72 = .ok (.getfield 7, 3) := by decide +kernel
theorem dX8_puts_75 : decode cX8_puts 75 = .ok (.iload 7, 2) := by decide +kernel
theorem dX8_puts_77 : decode cX8_puts 77 = .ok (.iaload, 1) := by decide +kernel
theorem dX8_puts_78 : decode cX8_puts 78 = .ok (.iastore, 1) := by decide +kernel
theorem dX8_puts_79 : decode cX8_puts 79 = .ok (.iinc 7 (-1), 3) := by decide +kernel
theorem dX8_puts_82 : decode cX8_puts 82 = .ok (.goto (-32), 3) := by decide +kernel
theorem dX8_puts_85 : decode cX8_puts 85 = .ok (.sipush 321, 3) := by decide +kernel
theorem dX8_puts_88 : decode cX8_puts 88 = .ok (.iconst 5, 1) := by decide +kernel
theorem dX8_puts_89 : decode cX8_puts 89 = .ok (.iload 6, 2) := by decide +kernel
theorem dX8_puts_91 : decode cX8_puts 91 = .ok (.imul, 1) := by decide +kernel
theorem dX8_puts_92 : decode cX8_puts 92 = .ok (.iadd, 1) := by decide +kernel
theorem dX8_puts_93 : decode cX8_puts 93 = .ok (.istore 7, 2) := by decide +kernel
theorem dX8_puts_95 : decode cX8_puts 95 = .ok (.aload_n 0, 1) := by decide +kernel
theorem dX8_puts_96 : decode cX8_puts 96 = .ok (.getfield 7, 3) := by decide +kernel
theorem dX8_puts_99 : decode cX8_puts 99 = .ok (.iload 7, 2) := by decide +kernel
theorem dX8_puts_101 : decode cX8_puts 101 = .ok (.iconst 0, 1) := by decide +kernel
theorem dX8_puts_102 : decode cX8_puts 102 = .ok (.iadd, 1) := by decide +kernel
theorem dX8_puts_103 : decode cX8_puts 103 = .ok (.iload_n 1, 1) := by decide +kernel
theorem dX8_puts_104 : decode cX8_puts 104 = .ok (.iastore, 1) := by decide +kernel
theorem dX8_puts_105 : decode cX8_puts 105 = .ok (.aload_n 0, 1) := by decide +kernel
theorem dX8_puts_106 : decode cX8_puts 106 = .ok (.getfield 7, 3) := by decide +kernel
theorem dX8_puts_109 : decode cX8_puts 109 = .ok (.iload 7, 2) := by decide +kernel
theorem dX8_puts_111 : decode cX8_puts 111 = .ok (.iconst 1, 1) := by decide +kernel
theorem dX8_puts_112 : decode cX8_puts 112 = .ok (.iadd, 1) := by decide +kernel
theorem dX8_puts_113 : decode cX8_puts 113 = .ok (.iload_n 2, 1) := by decide +kernel
theorem dX8_puts_114 : decode cX8_puts 114 = .ok (.iastore, 1) := by decide +kernel
theorem dX8_puts_115 : decode cX8_puts 115 = .ok (.aload_n 0, 1) := by decide +kernel
theorem dX8_puts_116 : decode cX8_puts 116 = .ok (.getfield 7, 3) := by decide +kernel
theorem dX8_puts_119 : decode cX8_puts 119 = .ok (.iload 7, 2) := by decide +kernel
theorem dX8_puts_121 : decode cX8_puts 121 = .ok (.iconst 2, 1) := by decide +kernel
theorem dX8_puts_122 : decode cX8_puts 122 = .ok (.iadd, 1) := by decide +kernel
theorem dX8_puts_123 : decode cX8_puts 123 = .ok (.iload_n 3, 1) := by decide +kernel
theorem dX8_puts_124 : decode cX8_puts 124 = .ok (.iastore, 1) := by decide +kernel
theorem dX8_puts_125 : decode cX8_puts 125 = .ok (.aload_n 0, 1) := by decide +kernel
theorem dX8_puts_126 : decode cX8_puts 126 = .ok (.getfield 7, 3) := by decide +kernel
theorem dX8_puts_129 : decode cX8_puts 129 = .ok (.iload 7, 2) := by decide +kernel
theorem dX8_puts_131 : decode cX8_puts 131 = .ok (.iconst 3, 1) := by decide +kernel
theorem dX8_puts_132 : decode cX8_puts 132 = .ok (.iadd, 1) := by decide +kernel
theorem dX8_puts_133 : decode cX8_puts 133 = .ok (.iload 4, 2) := by decide +kernel
theorem dX8_puts_135 : decode cX8_puts 135 = .ok (.iastore, 1) := by decide +kernel
theorem dX8_puts_136 : decode cX8_puts 136 = .ok (.aload_n 0, 1) := by decide +kernel
theorem dX8_puts_137 : decode cX8_puts 137 = .ok (.getfield 7, 3) := by decide +kernel
theorem dX8_puts_140 : decode cX8_puts 140 = .ok (.iload 7, 2) := by decide +kernel
theorem dX8_puts_142 : decode cX8_puts 142 = .ok (.iconst 4, 1) := by decide +kernel
theorem dX8_puts_143 : decode cX8_puts 143 = .ok (.iadd, 1) := by decide +kernel
theorem dX8_puts_144 : decode cX8_puts 144 = .ok (.iload 5, 2) := by decide +kernel
theorem dX8_puts_146 : decode cX8_puts 146 = .ok (.iastore, 1) := by decide +kernel
theorem dX8_puts_147 : decode cX8_puts 147 = .ok (.aload_n 0, 1) := by decide +kernel
theorem dX8_puts_148 : decode cX8_puts 148 = .ok (.getfield 7, 3) := by decide +kernel
theorem dX8_puts_151 : decode cX8_puts 151 = .ok (.iconst 2, 1) := by decide +kernel
theorem dX8_puts_152 : decode cX8_puts 152 = .ok (.dup2, 1) := by decide +kernel
theorem dX8_puts_153 : decode cX8_puts 153 = .ok (.iaload, 1) := by decide +kernel
theorem dX8_puts_154 : decode cX8_puts 154 = .ok (.iconst 1, 1) := by decide +kernel
theorem dX8_puts_155 : decode cX8_puts 155 = .ok (.iadd, 1) := by decide +kernel
theorem dX8_puts_156 : decode cX8_puts 156 = .ok (.iastore, 1) := by decide +kernel
theorem dX8_puts_157 : decode cX8_puts 157 = .ok (.aload_n 0, 1) := by decide +kernel
theorem dX8_puts_158 : decode cX8_puts 158 = .ok (.getfield 7, 3) := by decide +kernel
theorem dX8_puts_161 : decode cX8_puts 161 = .ok (.iconst 5, 1) := by decide +kernel
theorem dX8_puts_162 : decode cX8_puts 162 = .ok (.dup2, 1) := by decide +kernel
theorem dX8_puts_163 : decode cX8_puts 163 = .ok (.iaload, 1) := by decide +kernel
theorem dX8_puts_164 : decode cX8_puts 164 = .ok (.iload 4, 2) := by decide +kernel
theorem dX8_puts_166 : decode cX8_puts 166 = .ok (.iload 5, 2) := by decide +kernel
theorem dX8_puts_168 : decode cX8_puts 168 = .ok (.imul, 1) := by decide +kernel
theorem dX8_puts_169 : decode cX8_puts 169 = .ok (.iadd, 1) := by decide +kernel
theorem dX8_puts_170 : decode cX8_puts 170 = .ok (.iastore, 1) := by decide +kernel
theorem dX8_puts_171 : decode cX8_puts 171 = .ok (.return_, 1) := by decide +kernel
theorem dX8_leaves_0 : decode cX8_leaves 0 = .ok (.aload_n 0, 1) := by decide +kernel
theorem dX8_leaves_1 : decode cX8_leaves 1 = .ok (.iconst 2, 1) := by decide +kernel
theorem dX8_leaves_2 : decode cX8_leaves 2 = .ok (.dup2, 1) := by decide +kernel
theorem dX8_leaves_3 : decode cX8_leaves 3 = .ok (.iaload, 1) := by decide +kernel
theorem dX8_leaves_4 : decode cX8_leaves 4 = .ok (.iconst 1, 1) := by decide +kernel
theorem dX8_leaves_5 : decode cX8_leaves 5 = .ok (.isub, 1) := by decide +kernel
theorem dX8_leaves_6 : decode cX8_leaves 6 = .ok (.iastore, 1) := by decide +kernel
theorem dX8_leaves_7 : decode cX8_leaves 7 = .ok (.sipush 321, 3) := by decide +kernel
theorem dX8_leaves_10 : decode cX8_leaves 10 = .ok (.iconst 5, 1) := by decide +kernel
theorem dX8_leaves_11 : decode cX8_leaves 11 = .ok (.iload_n 1, 1) := by decide +kernel
theorem dX8_leaves_12 : decode cX8_leaves 12 = .ok (.imul, 1) := by decide +kernel
theorem dX8_leaves_13 : decode cX8_leaves 13 = .ok (.iadd, 1) := by decide +kernel
theorem dX8_leaves_14 : decode cX8_leaves 14 = .ok (.istore_n 2, 1) := by decide +kernel
theorem dX8_leaves_15 : decode cX8_leaves 15 = .ok (.iload_n 2, 1) := by decide +kernel
theorem dX8_leaves_16 : decode cX8_leaves 16 = .ok (.sipush 321, 3) := by decide +kernel
theorem dX8_leaves_19 : decode cX8_leaves 19 = .ok (.iconst 5, 1) := by decide +kernel
theorem dX8_leaves_20 : decode cX8_leaves 20 = .ok (.aload_n 0, 1) := by decide +kernel
theorem dX8_leaves_21 : decode cX8_leaves 21 = .ok (.iconst 2, 1) := by decide +kernel
theorem dX8_leaves_22 : decode cX8_leaves 22 = .ok (.iaload, 1) := by decide +kernel
theorem dX8_leaves_23 : decode cX8_leaves 23 = .ok (.imul, 1) := by decide +kernel
theorem dX8_leaves_24 : decode cX8_leaves 24 = .ok (.iadd, 1) := by decide +kernel
theorem dX8_leaves_25 : decode cX8_leaves 25 = .ok (.if_icmp .ge 17, 3) := by decide +kernel
theorem dX8_leaves_28 : decode cX8_leaves 28 = .ok (.aload_n 0, 1) := by decide +kernel
theorem dX8_leaves_29 : decode cX8_leaves 29 = .ok (.iload_n 2, 1) := by decide +kernel
theorem dX8_leaves_30 : decode cX8_leaves 30 = .ok (.aload_n 0, 1) := by decide +kernel
theorem dX8_leaves_31 : decode cX8_leaves 31 = .ok (.iload_n 2, 1) := by decide +kernel
theorem dX8_leaves_32 : decode cX8_leaves 32 = .ok (.iconst 5, 1) := by decide +kernel
theorem dX8_leaves_33 : decode cX8_leaves 33 = .ok (.iadd, 1) := by decide +kernel
theorem dX8_leaves_34 : decode cX8_leaves 34 = .ok (.iaload, 1) := by decide +kernel
theorem dX8_leaves_35 : decode cX8_leaves 35 = .ok (.iastore, 1) := by decide +kernel
theorem dX8_leaves_36 : decode cX8_leaves 36 = .ok (.iinc 2 1, 3) := by decide +kernel
theorem dX8_leaves_39 : decode cX8_leaves 39 = .ok (.goto (-24), 3) := by decide +kernel
theorem dX8_leaves_42 : decode cX8_leaves 42 = .ok (.return_, 1) := by decide +kernel
set_option maxRecDepth 20000 in
theorem ggX8_sound_X8_isRoom : GoodIn wsX8_sound wsX8_isRoom := goodIn_r _ [8, 2, 25, 26, 27, 28, 29, 30, 31, 32, 33, 34, 35, 36, 37] (by decide +kernel) (by decide +kernel)
set_option maxRecDepth 20000 in
theorem gX8_sound_X8_isRoom : GoodIn wsX8_sound (wsV RX8 54 RX8 yX8_isRoom wsX8_isRoom) := goodIn_app (goodIn_of _ (by decide +kernel)) ggX8_sound_X8_isRoom
set_option maxRecDepth 20000 in
theorem ggX8_sound_X8_in : GoodIn wsX8_sound wsX8_in := goodIn_r _ [11] (by decide +kernel) (by decide +kernel)
set_option maxRecDepth 20000 in
theorem gX8_sound_X8_in : GoodIn wsX8_sound (va_wsS RX8 36 yX8_in wsX8_in) := goodIn_app (goodIn_of _ (by decide +kernel)) ggX8_sound_X8_in
set_option maxRecDepth 20000 in
theorem ggX8_sound_X8_changes : GoodIn wsX8_sound wsX8_changes := goodIn_r _ [15, 16, 17, 2, 25, 26, 27, 28, 29, 30, 31, 32, 33, 34, 35, 36, 37] (by decide +kernel) (by decide +kernel)
set_option maxRecDepth 20000 in
theorem gX8_sound_X8_changes : GoodIn wsX8_sound (wsV RX8 40 RX8 yX8_changes wsX8_changes) := goodIn_app (goodIn_of _ (by decide +kernel)) ggX8_sound_X8_changes
set_option maxRecDepth 20000 in
theorem ggX8_sound_X8_puts : GoodIn wsX8_sound wsX8_puts := goodIn_r _ [21, 2, 22, 23, 7, 24, 25, 26, 27, 28, 29, 30, 31, 32, 33, 34, 35, 36, 37] (by decide +kernel) (by decide +kernel)
set_option maxRecDepth 20000 in
theorem gX8_sound_X8_puts : GoodIn wsX8_sound (wsV RX8 108 RX8 yX8_puts wsX8_puts) := goodIn_app (goodIn_of _ (by decide +kernel)) ggX8_sound_X8_puts
theorem dX8_sound_0 : decode cX8_sound 0 = .ok (.aload_n 0, 1) := by decide +kernel
theorem dX8_sound_1 : decode cX8_sound 1 = .ok (.iload_n 1, 1) := by decide +kernel
theorem dX8_sound_2 : decode cX8_sound 2 = .ok (.invokevirtual 54, 3) := by decide +kernel
theorem dX8_sound_5 : decode cX8_sound 5 = .ok (.ifCond .eq 35, 3) := by decide +kernel
theorem dX8_sound_8 : decode cX8_sound 8 = .ok (.iload_n 2, 1) := by decide +kernel
theorem dX8_sound_9 : decode cX8_sound 9 = .ok (.iconst 0, 1) := by decide +kernel
theorem dX8_sound_10 : decode cX8_sound 10 = .ok (.sipush 5000, 3) := by decide +kernel
theorem dX8_sound_13 : decode cX8_sound 13 = .ok (.invokestatic 36, 3) := by decide +kernel
theorem dX8_sound_16 : decode cX8_sound 16 = .ok (.ifCond .eq 24, 3) := by decide +kernel
theorem dX8_sound_19 : decode cX8_sound 19 = .ok (.iload_n 3, 1) := by decide +kernel
theorem dX8_sound_20 : decode cX8_sound 20 = .ok (.iconst 1, 1) := by decide +kernel
theorem dX8_sound_21 : decode cX8_sound 21 = .ok (.bipush 20, 2) := by decide +kernel
theorem dX8_sound_23 : decode cX8_sound 23 = .ok (.invokestatic 36, 3) := by decide +kernel
theorem dX8_sound_26 : decode cX8_sound 26 = .ok (.ifCond .eq 14, 3) := by decide +kernel
theorem dX8_sound_29 : decode cX8_sound 29 = .ok (.iload 4, 2) := by decide +kernel
theorem dX8_sound_31 : decode cX8_sound 31 = .ok (.iconst 1, 1) := by decide +kernel
theorem dX8_sound_32 : decode cX8_sound 32 = .ok (.ldc 31, 2) := by decide +kernel
theorem dX8_sound_34 : decode cX8_sound 34 = .ok (.invokestatic 36, 3) := by decide +kernel
theorem dX8_sound_37 : decode cX8_sound 37 = .ok (.ifCond .ne 5, 3) := by decide +kernel
theorem dX8_sound_40 : decode cX8_sound 40 = .ok (.iconst (-1), 1) := by decide +kernel
theorem dX8_sound_41 : decode cX8_sound 41 = .ok (.ireturn, 1) := by decide +kernel
theorem dX8_sound_42 : decode cX8_sound 42 = .ok (.iload_n 2, 1) := by decide +kernel
theorem dX8_sound_43 : decode cX8_sound 43 = .ok (.aload_n 0, 1) := by decide +kernel
theorem dX8_sound_44 : decode cX8_sound 44 = .ok (.getfield 7, 3) := by decide +kernel
theorem dX8_sound_47 : decode cX8_sound 47 = .ok (.iconst 3, 1) := by decide +kernel
theorem dX8_sound_48 : decode cX8_sound 48 = .ok (.iaload, 1) := by decide +kernel
theorem dX8_sound_49 : decode cX8_sound 49 = .ok (.if_icmp .ge 6, 3) := by decide +kernel
theorem dX8_sound_52 : decode cX8_sound 52 = .ok (.bipush (-2), 2) := by decide +kernel
theorem dX8_sound_54 : decode cX8_sound 54 = .ok (.ireturn, 1) := by decide +kernel
theorem dX8_sound_55 : decode cX8_sound 55 = .ok (.aload_n 0, 1) := by decide +kernel
theorem dX8_sound_56 : decode cX8_sound 56 = .ok (.getfield 7, 3) := by decide +kernel
theorem dX8_sound_59 : decode cX8_sound 59 = .ok (.iconst 2, 1) := by decide +kernel
theorem dX8_sound_60 : decode cX8_sound 60 = .ok (.iaload, 1) := by decide +kernel
theorem dX8_sound_61 : decode cX8_sound 61 = .ok (.bipush 16, 2) := by decide +kernel
theorem dX8_sound_63 : decode cX8_sound 63 = .ok (.if_icmp .eq 19, 3) := by decide +kernel
theorem dX8_sound_66 : decode cX8_sound 66 = .ok (.aload_n 0, 1) := by decide +kernel
theorem dX8_sound_67 : decode cX8_sound 67 = .ok (.getfield 7, 3) := by decide +kernel
theorem dX8_sound_70 : decode cX8_sound 70 = .ok (.iconst 5, 1) := by decide +kernel
theorem dX8_sound_71 : decode cX8_sound 71 = .ok (.iaload, 1) := by decide +kernel
theorem dX8_sound_72 : decode cX8_sound 72 = .ok (.iload_n 3, 1) := by decide +kernel
theorem dX8_sound_73 : decode cX8_sound 73 = .ok (.iload 4, 2) := by decide +kernel
theorem dX8_sound_75 : decode cX8_sound 75 = .ok (.imul, 1) := by decide +kernel
theorem dX8_sound_76 : decode cX8_sound 76 = .ok (.iadd, 1) := by decide +kernel
theorem dX8_sound_77 : decode cX8_sound 77 = .ok (.ldc 107, 2) := by decide +kernel
theorem dX8_sound_79 : decode cX8_sound 79 = .ok (.if_icmp .le 6, 3) := by decide +kernel
theorem dX8_sound_82 : decode cX8_sound 82 = .ok (.bipush (-3), 2) := by decide +kernel
theorem dX8_sound_84 : decode cX8_sound 84 = .ok (.ireturn, 1) := by decide +kernel
theorem dX8_sound_85 : decode cX8_sound 85 = .ok (.aload_n 0, 1) := by decide +kernel
theorem dX8_sound_86 : decode cX8_sound 86 = .ok (.invokevirtual 40, 3) := by decide +kernel
theorem dX8_sound_89 : decode cX8_sound 89 = .ok (.aload_n 0, 1) := by decide +kernel
theorem dX8_sound_90 : decode cX8_sound 90 = .ok (.iload_n 2, 1) := by decide +kernel
theorem dX8_sound_91 : decode cX8_sound 91 = .ok (.iconst 0, 1) := by decide +kernel
theorem dX8_sound_92 : decode cX8_sound 92 = .ok (.iload_n 1, 1) := by decide +kernel
theorem dX8_sound_93 : decode cX8_sound 93 = .ok (.iload_n 3, 1) := by decide +kernel
theorem dX8_sound_94 : decode cX8_sound 94 = .ok (.iload 4, 2) := by decide +kernel
theorem dX8_sound_96 : decode cX8_sound 96 = .ok (.invokevirtual 108, 3) := by decide +kernel
theorem dX8_sound_99 : decode cX8_sound 99 = .ok (.aload_n 0, 1) := by decide +kernel
theorem dX8_sound_100 : decode cX8_sound 100 = .ok (.getfield 7, 3) := by decide +kernel
theorem dX8_sound_103 : decode cX8_sound 103 = .ok (.iconst 2, 1) := by decide +kernel
theorem dX8_sound_104 : decode cX8_sound 104 = .ok (.iaload, 1) := by decide +kernel
theorem dX8_sound_105 : decode cX8_sound 105 = .ok (.ireturn, 1) := by decide +kernel
set_option maxRecDepth 20000 in
theorem ggX8_planDoor_X8_isDoor : GoodIn wsX8_planDoor wsX8_isDoor := goodIn_r _ [6, 1, 23, 24, 25, 26, 27, 28, 29, 30, 31, 32, 33, 34, 35] (by decide +kernel) (by decide +kernel)
set_option maxRecDepth 20000 in
theorem gX8_planDoor_X8_isDoor : GoodIn wsX8_planDoor (wsV RX8 65 RX8 yX8_isDoor wsX8_isDoor) := goodIn_app (goodIn_of _ (by decide +kernel)) ggX8_planDoor_X8_isDoor
set_option maxRecDepth 20000 in
theorem ggX8_planDoor_X8_in : GoodIn wsX8_planDoor wsX8_in := goodIn_r _ [9] (by decide +kernel) (by decide +kernel)
set_option maxRecDepth 20000 in
theorem gX8_planDoor_X8_in : GoodIn wsX8_planDoor (va_wsS RX8 36 yX8_in wsX8_in) := goodIn_app (goodIn_of _ (by decide +kernel)) ggX8_planDoor_X8_in
set_option maxRecDepth 20000 in
theorem ggX8_planDoor_X8_changes : GoodIn wsX8_planDoor wsX8_changes := goodIn_r _ [13, 14, 15, 1, 23, 24, 25, 26, 27, 28, 29, 30, 31, 32, 33, 34, 35] (by decide +kernel) (by decide +kernel)
set_option maxRecDepth 20000 in
theorem gX8_planDoor_X8_changes : GoodIn wsX8_planDoor (wsV RX8 40 RX8 yX8_changes wsX8_changes) := goodIn_app (goodIn_of _ (by decide +kernel)) ggX8_planDoor_X8_changes
set_option maxRecDepth 20000 in
theorem ggX8_planDoor_X8_puts : GoodIn wsX8_planDoor wsX8_puts := goodIn_r _ [19, 1, 20, 21, 5, 22, 23, 24, 25, 26, 27, 28, 29, 30, 31, 32, 33, 34, 35] (by decide +kernel) (by decide +kernel)
set_option maxRecDepth 20000 in
theorem gX8_planDoor_X8_puts : GoodIn wsX8_planDoor (wsV RX8 108 RX8 yX8_puts wsX8_puts) := goodIn_app (goodIn_of _ (by decide +kernel)) ggX8_planDoor_X8_puts
theorem dX8_planDoor_0 : decode cX8_planDoor 0 = .ok (.aload_n 0, 1) := by decide +kernel
theorem dX8_planDoor_1 : decode cX8_planDoor 1 = .ok (.iload_n 1, 1) := by decide +kernel
theorem dX8_planDoor_2 : decode cX8_planDoor 2 = .ok (.invokevirtual 65, 3) := by decide +kernel
theorem dX8_planDoor_5 : decode cX8_planDoor 5 = .ok (.ifCond .eq 24, 3) := by decide +kernel
theorem dX8_planDoor_8 : decode cX8_planDoor 8 = .ok (.iload_n 2, 1) := by decide +kernel
theorem dX8_planDoor_9 : decode cX8_planDoor 9 = .ok (.iconst 0, 1) := by decide +kernel
theorem dX8_planDoor_10 : decode cX8_planDoor 10 = .ok (.sipush 5000, 3) := by decide +kernel
theorem dX8_planDoor_13 : decode cX8_planDoor 13 = .ok (.invokestatic 36, 3) := by decide +kernel
theorem dX8_planDoor_16 : decode cX8_planDoor 16 = .ok (.ifCond .eq 13, 3) := by decide +kernel
theorem dX8_planDoor_19 : decode cX8_planDoor 19 = .ok (.iload_n 3, 1) := by decide +kernel
theorem dX8_planDoor_20 : decode cX8_planDoor 20 = .ok (.iconst 0, 1) := by decide +kernel
theorem dX8_planDoor_21 : decode cX8_planDoor 21 = .ok (.bipush 10, 2) := by decide +kernel
theorem dX8_planDoor_23 : decode cX8_planDoor 23 = .ok (.invokestatic 36, 3) := by decide +kernel
theorem dX8_planDoor_26 : decode cX8_planDoor 26 = .ok (.ifCond .ne 5, 3) := by decide +kernel
theorem dX8_planDoor_29 : decode cX8_planDoor 29 = .ok (.iconst (-1), 1) := by decide +kernel
theorem dX8_planDoor_30 : decode cX8_planDoor 30 = .ok (.ireturn, 1) := by decide +kernel
theorem dX8_planDoor_31 : decode cX8_planDoor 31 = .ok (.iload_n 2, 1) := by decide +kernel
theorem dX8_planDoor_32 : decode cX8_planDoor 32 = .ok (.aload_n 0, 1) := by decide +kernel
theorem dX8_planDoor_33 : decode cX8_planDoor 33 = .ok (.getfield 7, 3) := by decide +kernel
theorem dX8_planDoor_36 : decode cX8_planDoor 36 = .ok (.iconst 3, 1) := by decide +kernel
theorem dX8_planDoor_37 : decode cX8_planDoor 37 = .ok (.iaload, 1) := by decide +kernel
theorem dX8_planDoor_38 : decode cX8_planDoor 38 = .ok (.if_icmp .ge 6, 3) := by decide +kernel
theorem dX8_planDoor_41 : decode cX8_planDoor 41 = .ok (.bipush (-2), 2) := by decide +kernel
theorem dX8_planDoor_43 : decode cX8_planDoor 43 = .ok (.ireturn, 1) := by decide +kernel
theorem dX8_planDoor_44 : decode cX8_planDoor 44 = .ok (.aload_n 0, 1) := by decide +kernel
theorem dX8_planDoor_45 : decode cX8_planDoor 45 = .ok (.getfield 7, 3) := by decide +kernel
theorem dX8_planDoor_48 : decode cX8_planDoor 48 = .ok (.iconst 2, 1) := by decide +kernel
theorem dX8_planDoor_49 : decode cX8_planDoor 49 = .ok (.iaload, 1) := by decide +kernel
theorem dX8_planDoor_50 : decode cX8_planDoor 50 = .ok (.bipush 16, 2) := by decide +kernel
theorem dX8_planDoor_52 : decode cX8_planDoor 52 = .ok (.if_icmp .ne 6, 3) := by decide +kernel
theorem dX8_planDoor_55 : decode cX8_planDoor 55 = .ok (.bipush (-3), 2) := by decide +kernel
theorem dX8_planDoor_57 : decode cX8_planDoor 57 = .ok (.ireturn, 1) := by decide +kernel
theorem dX8_planDoor_58 : decode cX8_planDoor 58 = .ok (.aload_n 0, 1) := by decide +kernel
theorem dX8_planDoor_59 : decode cX8_planDoor 59 = .ok (.invokevirtual 40, 3) := by decide +kernel
theorem dX8_planDoor_62 : decode cX8_planDoor 62 = .ok (.aload_n 0, 1) := by decide +kernel
theorem dX8_planDoor_63 : decode cX8_planDoor 63 = .ok (.iload_n 2, 1) := by decide +kernel
theorem dX8_planDoor_64 : decode cX8_planDoor 64 = .ok (.iconst 1, 1) := by decide +kernel
theorem dX8_planDoor_65 : decode cX8_planDoor 65 = .ok (.iload_n 1, 1) := by decide +kernel
theorem dX8_planDoor_66 : decode cX8_planDoor 66 = .ok (.iconst 0, 1) := by decide +kernel
theorem dX8_planDoor_67 : decode cX8_planDoor 67 = .ok (.iload_n 3, 1) := by decide +kernel
theorem dX8_planDoor_68 : decode cX8_planDoor 68 = .ok (.invokevirtual 108, 3) := by decide +kernel
theorem dX8_planDoor_71 : decode cX8_planDoor 71 = .ok (.aload_n 0, 1) := by decide +kernel
theorem dX8_planDoor_72 : decode cX8_planDoor 72 = .ok (.getfield 7, 3) := by decide +kernel
theorem dX8_planDoor_75 : decode cX8_planDoor 75 = .ok (.iconst 2, 1) := by decide +kernel
theorem dX8_planDoor_76 : decode cX8_planDoor 76 = .ok (.iaload, 1) := by decide +kernel
theorem dX8_planDoor_77 : decode cX8_planDoor 77 = .ok (.ireturn, 1) := by decide +kernel
set_option maxRecDepth 20000 in
theorem ggX8_cancel_X8_in : GoodIn wsX8_cancel wsX8_in := goodIn_r _ [5] (by decide +kernel) (by decide +kernel)
set_option maxRecDepth 20000 in
theorem gX8_cancel_X8_in : GoodIn wsX8_cancel (va_wsS RX8 36 yX8_in wsX8_in) := goodIn_app (goodIn_of _ (by decide +kernel)) ggX8_cancel_X8_in
set_option maxRecDepth 20000 in
theorem ggX8_cancel_X8_changes : GoodIn wsX8_cancel wsX8_changes := goodIn_r _ [9, 10, 11, 1, 15, 16, 17, 18, 19, 20, 21, 22, 23, 24, 25, 26, 27] (by decide +kernel) (by decide +kernel)
set_option maxRecDepth 20000 in
theorem gX8_cancel_X8_changes : GoodIn wsX8_cancel (wsV RX8 40 RX8 yX8_changes wsX8_changes) := goodIn_app (goodIn_of _ (by decide +kernel)) ggX8_cancel_X8_changes
set_option maxRecDepth 20000 in
theorem ggX8_cancel_X8_leaves : GoodIn wsX8_cancel wsX8_leaves := goodIn_r _ [14] (by decide +kernel) (by decide +kernel)
set_option maxRecDepth 20000 in
theorem gX8_cancel_X8_leaves : GoodIn wsX8_cancel (va_wsS RX8 112 yX8_leaves wsX8_leaves) := goodIn_app (goodIn_of _ (by decide +kernel)) ggX8_cancel_X8_leaves
theorem dX8_cancel_0 : decode cX8_cancel 0 = .ok (.iload_n 1, 1) := by decide +kernel
theorem dX8_cancel_1 : decode cX8_cancel 1 = .ok (.iconst 0, 1) := by decide +kernel
theorem dX8_cancel_2 : decode cX8_cancel 2 = .ok (.aload_n 0, 1) := by decide +kernel
theorem dX8_cancel_3 : decode cX8_cancel 3 = .ok (.getfield 7, 3) := by decide +kernel
theorem dX8_cancel_6 : decode cX8_cancel 6 = .ok (.iconst 2, 1) := by decide +kernel
theorem dX8_cancel_7 : decode cX8_cancel 7 = .ok (.iaload, 1) := by decide +kernel
theorem dX8_cancel_8 : decode cX8_cancel 8 = .ok (.iconst 1, 1) := by decide +kernel
theorem dX8_cancel_9 : decode cX8_cancel 9 = .ok (.isub, 1) := by decide +kernel
theorem dX8_cancel_10 : decode cX8_cancel 10 = .ok (.invokestatic 36, 3) := by decide +kernel
theorem dX8_cancel_13 : decode cX8_cancel 13 = .ok (.ifCond .ne 5, 3) := by decide +kernel
theorem dX8_cancel_16 : decode cX8_cancel 16 = .ok (.iconst (-1), 1) := by decide +kernel
theorem dX8_cancel_17 : decode cX8_cancel 17 = .ok (.ireturn, 1) := by decide +kernel
theorem dX8_cancel_18 : decode cX8_cancel 18 = .ok (.aload_n 0, 1) := by decide +kernel
theorem dX8_cancel_19 : decode cX8_cancel 19 = .ok (.invokevirtual 40, 3) := by decide +kernel
theorem dX8_cancel_22 : decode cX8_cancel 22 = .ok (.aload_n 0, 1) := by decide +kernel
theorem dX8_cancel_23 : decode cX8_cancel 23 = .ok (.getfield 7, 3) := by decide +kernel
theorem dX8_cancel_26 : decode cX8_cancel 26 = .ok (.iload_n 1, 1) := by decide +kernel
theorem dX8_cancel_27 : decode cX8_cancel 27 = .ok (.invokestatic 112, 3) := by decide +kernel
theorem dX8_cancel_30 : decode cX8_cancel 30 = .ok (.aload_n 0, 1) := by decide +kernel
theorem dX8_cancel_31 : decode cX8_cancel 31 = .ok (.getfield 7, 3) := by decide +kernel
theorem dX8_cancel_34 : decode cX8_cancel 34 = .ok (.iconst 2, 1) := by decide +kernel
theorem dX8_cancel_35 : decode cX8_cancel 35 = .ok (.iaload, 1) := by decide +kernel
theorem dX8_cancel_36 : decode cX8_cancel 36 = .ok (.ireturn, 1) := by decide +kernel
set_option maxRecDepth 20000 in
theorem ggX8_plan_X8_in : GoodIn wsX8_plan wsX8_in := goodIn_r _ [5] (by decide +kernel) (by decide +kernel)
set_option maxRecDepth 20000 in
theorem gX8_plan_X8_in : GoodIn wsX8_plan (va_wsS RX8 36 yX8_in wsX8_in) := goodIn_app (goodIn_of _ (by decide +kernel)) ggX8_plan_X8_in
set_option maxRecDepth 20000 in
theorem ggX8_plan_X8_entry : GoodIn wsX8_plan wsX8_entry := goodIn_r _ [8] (by decide +kernel) (by decide +kernel)
set_option maxRecDepth 20000 in
theorem gX8_plan_X8_entry : GoodIn wsX8_plan (va_wsS RX8 72 yX8_entry wsX8_entry) := goodIn_app (goodIn_of _ (by decide +kernel)) ggX8_plan_X8_entry
theorem dX8_plan_0 : decode cX8_plan 0 = .ok (.iload_n 1, 1) := by decide +kernel
theorem dX8_plan_1 : decode cX8_plan 1 = .ok (.ifCond .lt 12, 3) := by decide +kernel
theorem dX8_plan_4 : decode cX8_plan 4 = .ok (.iload_n 2, 1) := by decide +kernel
theorem dX8_plan_5 : decode cX8_plan 5 = .ok (.iconst 0, 1) := by decide +kernel
theorem dX8_plan_6 : decode cX8_plan 6 = .ok (.iconst 4, 1) := by decide +kernel
theorem dX8_plan_7 : decode cX8_plan 7 = .ok (.invokestatic 36, 3) := by decide +kernel
theorem dX8_plan_10 : decode cX8_plan 10 = .ok (.ifCond .ne 5, 3) := by decide +kernel
theorem dX8_plan_13 : decode cX8_plan 13 = .ok (.iconst (-1), 1) := by decide +kernel
theorem dX8_plan_14 : decode cX8_plan 14 = .ok (.ireturn, 1) := by decide +kernel
theorem dX8_plan_15 : decode cX8_plan 15 = .ok (.iload_n 1, 1) := by decide +kernel
theorem dX8_plan_16 : decode cX8_plan 16 = .ok (.aload_n 0, 1) := by decide +kernel
theorem dX8_plan_17 : decode cX8_plan 17 = .ok (.getfield 7, 3) := by decide +kernel
theorem dX8_plan_20 : decode cX8_plan 20 = .ok (.iconst 2, 1) := by decide +kernel
theorem dX8_plan_21 : decode cX8_plan 21 = .ok (.iaload, 1) := by decide +kernel
theorem dX8_plan_22 : decode cX8_plan 22 = .ok (.if_icmp .ge 15, 3) := by decide +kernel
theorem dX8_plan_25 : decode cX8_plan 25 = .ok (.aload_n 0, 1) := by decide +kernel
theorem dX8_plan_26 : decode cX8_plan 26 = .ok (.getfield 7, 3) := by decide +kernel
theorem dX8_plan_29 : decode cX8_plan 29 = .ok (.iload_n 1, 1) := by decide +kernel
theorem dX8_plan_30 : decode cX8_plan 30 = .ok (.iload_n 2, 1) := by decide +kernel
theorem dX8_plan_31 : decode cX8_plan 31 = .ok (.invokestatic 72, 3) := by decide +kernel
theorem dX8_plan_34 : decode cX8_plan 34 = .ok (.goto 5, 3) := by decide +kernel
theorem dX8_plan_37 : decode cX8_plan 37 = .ok (.bipush (-4), 2) := by decide +kernel
theorem dX8_plan_39 : decode cX8_plan 39 = .ok (.ireturn, 1) := by decide +kernel
set_option maxRecDepth 20000 in
theorem ggX8_givesTargets_X8_entry : GoodIn wsX8_givesTargets wsX8_entry := goodIn_r _ [4] (by decide +kernel) (by decide +kernel)
set_option maxRecDepth 20000 in
theorem gX8_givesTargets_X8_entry : GoodIn wsX8_givesTargets (va_wsS RX8 72 yX8_entry wsX8_entry) := goodIn_app (goodIn_of _ (by decide +kernel)) ggX8_givesTargets_X8_entry
set_option maxRecDepth 20000 in
theorem ggX8_givesTargets_X8_leaves : GoodIn wsX8_givesTargets wsX8_leaves := goodIn_r _ [7] (by decide +kernel) (by decide +kernel)
set_option maxRecDepth 20000 in
theorem gX8_givesTargets_X8_leaves : GoodIn wsX8_givesTargets (va_wsS RX8 112 yX8_leaves wsX8_leaves) := goodIn_app (goodIn_of _ (by decide +kernel)) ggX8_givesTargets_X8_leaves
theorem dX8_givesTargets_0 : decode cX8_givesTargets 0 = .ok (.iconst 0, 1) := by decide +kernel
theorem dX8_givesTargets_1 : decode cX8_givesTargets 1 = .ok (.istore_n 1, 1) := by decide +kernel
theorem dX8_givesTargets_2 : decode cX8_givesTargets 2 = .ok (.iload_n 1, 1) := by decide +kernel
theorem dX8_givesTargets_3 : decode cX8_givesTargets 3 = .ok (.aload_n 0, 1) := by decide +kernel
theorem dX8_givesTargets_4 : decode cX8_givesTargets 4 = .ok (.iconst 2, 1) := by decide +kernel
theorem dX8_givesTargets_5 : decode cX8_givesTargets 5 = .ok (.iaload, 1) := by decide +kernel
theorem dX8_givesTargets_6 : decode cX8_givesTargets 6 = .ok (.if_icmp .ge 83, 3) := by decide +kernel
theorem dX8_givesTargets_9 : decode cX8_givesTargets 9 = .ok (.aload_n 0, 1) := by decide +kernel
theorem dX8_givesTargets_10 : decode cX8_givesTargets 10 = .ok (.iload_n 1, 1) := by decide +kernel
theorem dX8_givesTargets_11 : decode cX8_givesTargets 11 = .ok (.iconst 1, 1) := by decide +kernel
theorem dX8_givesTargets_12 : decode cX8_givesTargets 12 = .ok (.invokestatic 72, 3) := by decide +kernel
theorem dX8_givesTargets_15 : decode cX8_givesTargets 15 = .ok (.iconst 1, 1) := by decide +kernel
theorem dX8_givesTargets_16 : decode cX8_givesTargets 16 = .ok (.if_icmp .ne 67, 3) := by decide +kernel
theorem dX8_givesTargets_19 : decode cX8_givesTargets 19 = .ok (.aload_n 0, 1) := by decide +kernel
theorem dX8_givesTargets_20 : decode cX8_givesTargets 20 = .ok (.iload_n 1, 1) := by decide +kernel
theorem dX8_givesTargets_21 : decode cX8_givesTargets 21 = .ok (.iconst 0, 1) := by decide +kernel
theorem dX8_givesTargets_22 : decode cX8_givesTargets 22 = .ok (.invokestatic 72, 3) := by decide +kernel
theorem dX8_givesTargets_25 : decode cX8_givesTargets 25 = .ok (.aload_n 0, 1) := by decide +kernel
theorem dX8_givesTargets_26 : decode cX8_givesTargets 26 = .ok (.iconst 3, 1) := by decide +kernel
theorem dX8_givesTargets_27 : decode cX8_givesTargets 27 = .ok (.iaload, 1) := by decide +kernel
theorem dX8_givesTargets_28 : decode cX8_givesTargets 28 = .ok (.if_icmp .ne 55, 3) := by decide +kernel
theorem dX8_givesTargets_31 : decode cX8_givesTargets 31 = .ok (.bipush 57, 2) := by decide +kernel
theorem dX8_givesTargets_33 : decode cX8_givesTargets 33 = .ok (.bipush 10, 2) := by decide +kernel
theorem dX8_givesTargets_35 : decode cX8_givesTargets 35 = .ok (.aload_n 0, 1) := by decide +kernel
theorem dX8_givesTargets_36 : decode cX8_givesTargets 36 = .ok (.iload_n 1, 1) := by decide +kernel
theorem dX8_givesTargets_37 : decode cX8_givesTargets 37 = .ok (.iconst 2, 1) := by decide +kernel
theorem dX8_givesTargets_38 : decode cX8_givesTargets 38 = .ok (.invokestatic 72, 3) := by decide +kernel
theorem dX8_givesTargets_41 : decode cX8_givesTargets 41 = .ok (.imul, 1) := by decide +kernel
theorem dX8_givesTargets_42 : decode cX8_givesTargets 42 = .ok (.iadd, 1) := by decide +kernel
theorem dX8_givesTargets_43 : decode cX8_givesTargets 43 = .ok (.istore_n 2, 1) := by decide +kernel
theorem dX8_givesTargets_44 : decode cX8_givesTargets 44 = .ok (.aload_n 0, 1) := by decide +kernel
theorem dX8_givesTargets_45 : decode cX8_givesTargets 45 = .ok (.iload_n 2, 1) := by decide +kernel
theorem dX8_givesTargets_46 : decode cX8_givesTargets 46 = .ok (.bipush 6, 2) := by decide +kernel
theorem dX8_givesTargets_48 : decode cX8_givesTargets 48 = .ok (.iadd, 1) := by decide +kernel
theorem dX8_givesTargets_49 : decode cX8_givesTargets 49 = .ok (.aload_n 0, 1) := by decide +kernel
theorem dX8_givesTargets_50 : decode cX8_givesTargets 50 = .ok (.iload_n 2, 1) := by decide +kernel
theorem dX8_givesTargets_51 : decode cX8_givesTargets 51 = .ok (.bipush 7, 2) := by decide +kernel
theorem dX8_givesTargets_53 : decode cX8_givesTargets 53 = .ok (.iadd, 1) := by decide +kernel
theorem dX8_givesTargets_54 : decode cX8_givesTargets 54 = .ok (.iaload, 1) := by decide +kernel
theorem dX8_givesTargets_55 : decode cX8_givesTargets 55 = .ok (.iconst 1, 1) := by decide +kernel
theorem dX8_givesTargets_56 : decode cX8_givesTargets 56 = .ok (.if_icmp .ne 12, 3) := by decide +kernel
theorem dX8_givesTargets_59 : decode cX8_givesTargets 59 = .ok (.aload_n 0, 1) := by decide +kernel
theorem dX8_givesTargets_60 : decode cX8_givesTargets 60 = .ok (.iload_n 2, 1) := by decide +kernel
theorem dX8_givesTargets_61 : decode cX8_givesTargets 61 = .ok (.bipush 6, 2) := by decide +kernel
theorem dX8_givesTargets_63 : decode cX8_givesTargets 63 = .ok (.iadd, 1) := by decide +kernel
theorem dX8_givesTargets_64 : decode cX8_givesTargets 64 = .ok (.iaload, 1) := by decide +kernel
theorem dX8_givesTargets_65 : decode cX8_givesTargets 65 = .ok (.goto 9, 3) := by decide +kernel
theorem dX8_givesTargets_68 : decode cX8_givesTargets 68 = .ok (.aload_n 0, 1) := by decide +kernel
theorem dX8_givesTargets_69 : decode cX8_givesTargets 69 = .ok (.iload_n 1, 1) := by decide +kernel
theorem dX8_givesTargets_70 : decode cX8_givesTargets 70 = .ok (.iconst 4, 1) := by decide +kernel
theorem dX8_givesTargets_71 : decode cX8_givesTargets 71 = .ok (.invokestatic 72, 3) := by decide +kernel
theorem dX8_givesTargets_74 : decode cX8_givesTargets 74 = .ok (.iastore, 1) := by decide +kernel
theorem dX8_givesTargets_75 : decode cX8_givesTargets 75 = .ok (.aload_n 0, 1) := by decide +kernel
theorem dX8_givesTargets_76 : decode cX8_givesTargets 76 = .ok (.iload_n 1, 1) := by decide +kernel
theorem dX8_givesTargets_77 : decode cX8_givesTargets 77 = .ok (.invokestatic 112, 3) := by decide +kernel
theorem dX8_givesTargets_80 : decode cX8_givesTargets 80 = .ok (.goto (-78), 3) := by decide +kernel
theorem dX8_givesTargets_83 : decode cX8_givesTargets 83 = .ok (.iinc 1 1, 3) := by decide +kernel
theorem dX8_givesTargets_86 : decode cX8_givesTargets 86 = .ok (.goto (-84), 3) := by decide +kernel
theorem dX8_givesTargets_89 : decode cX8_givesTargets 89 = .ok (.return_, 1) := by decide +kernel
set_option maxRecDepth 20000 in
theorem ggX8_movesDoors_X8_heardIn : GoodIn wsX8_movesDoors wsX8_heardIn := goodIn_r _ [4, 5, 6, 3, 7, 8, 9, 10, 11, 12, 13] (by decide +kernel) (by decide +kernel)
set_option maxRecDepth 20000 in
theorem gX8_movesDoors_X8_heardIn : GoodIn wsX8_movesDoors (va_wsS RX8 85 yX8_heardIn wsX8_heardIn) := goodIn_app (goodIn_of _ (by decide +kernel)) ggX8_movesDoors_X8_heardIn
theorem dX8_movesDoors_0 : decode cX8_movesDoors 0 = .ok (.iconst 0, 1) := by decide +kernel
theorem dX8_movesDoors_1 : decode cX8_movesDoors 1 = .ok (.istore_n 1, 1) := by decide +kernel
theorem dX8_movesDoors_2 : decode cX8_movesDoors 2 = .ok (.iload_n 1, 1) := by decide +kernel
theorem dX8_movesDoors_3 : decode cX8_movesDoors 3 = .ok (.aload_n 0, 1) := by decide +kernel
theorem dX8_movesDoors_4 : decode cX8_movesDoors 4 = .ok (.iconst 1, 1) := by decide +kernel
theorem dX8_movesDoors_5 : decode cX8_movesDoors 5 = .ok (.iaload, 1) := by decide +kernel
theorem dX8_movesDoors_6 : decode cX8_movesDoors 6 = .ok (.if_icmp .ge 111, 3) := by decide +kernel
theorem dX8_movesDoors_9 : decode cX8_movesDoors 9 = .ok (.bipush 57, 2) := by decide +kernel
theorem dX8_movesDoors_11 : decode cX8_movesDoors 11 = .ok (.bipush 10, 2) := by decide +kernel
theorem dX8_movesDoors_13 : decode cX8_movesDoors 13 = .ok (.iload_n 1, 1) := by decide +kernel
theorem dX8_movesDoors_14 : decode cX8_movesDoors 14 = .ok (.imul, 1) := by decide +kernel
theorem dX8_movesDoors_15 : decode cX8_movesDoors 15 = .ok (.iadd, 1) := by decide +kernel
theorem dX8_movesDoors_16 : decode cX8_movesDoors 16 = .ok (.istore_n 2, 1) := by decide +kernel
theorem dX8_movesDoors_17 : decode cX8_movesDoors 17 = .ok (.aload_n 0, 1) := by decide +kernel
theorem dX8_movesDoors_18 : decode cX8_movesDoors 18 = .ok (.iload_n 2, 1) := by decide +kernel
theorem dX8_movesDoors_19 : decode cX8_movesDoors 19 = .ok (.bipush 6, 2) := by decide +kernel
theorem dX8_movesDoors_21 : decode cX8_movesDoors 21 = .ok (.iadd, 1) := by decide +kernel
theorem dX8_movesDoors_22 : decode cX8_movesDoors 22 = .ok (.iaload, 1) := by decide +kernel
theorem dX8_movesDoors_23 : decode cX8_movesDoors 23 = .ok (.aload_n 0, 1) := by decide +kernel
theorem dX8_movesDoors_24 : decode cX8_movesDoors 24 = .ok (.iload_n 2, 1) := by decide +kernel
theorem dX8_movesDoors_25 : decode cX8_movesDoors 25 = .ok (.iconst 5, 1) := by decide +kernel
theorem dX8_movesDoors_26 : decode cX8_movesDoors 26 = .ok (.iadd, 1) := by decide +kernel
theorem dX8_movesDoors_27 : decode cX8_movesDoors 27 = .ok (.iaload, 1) := by decide +kernel
theorem dX8_movesDoors_28 : decode cX8_movesDoors 28 = .ok (.isub, 1) := by decide +kernel
theorem dX8_movesDoors_29 : decode cX8_movesDoors 29 = .ok (.istore_n 3, 1) := by decide +kernel
theorem dX8_movesDoors_30 : decode cX8_movesDoors 30 = .ok (.aload_n 0, 1) := by decide +kernel
theorem dX8_movesDoors_31 : decode cX8_movesDoors 31 = .ok (.iload_n 2, 1) := by decide +kernel
theorem dX8_movesDoors_32 : decode cX8_movesDoors 32 = .ok (.iconst 3, 1) := by decide +kernel
theorem dX8_movesDoors_33 : decode cX8_movesDoors 33 = .ok (.iadd, 1) := by decide +kernel
theorem dX8_movesDoors_34 : decode cX8_movesDoors 34 = .ok (.iaload, 1) := by decide +kernel
theorem dX8_movesDoors_35 : decode cX8_movesDoors 35 = .ok (.istore 4, 2) := by decide +kernel
theorem dX8_movesDoors_37 : decode cX8_movesDoors 37 = .ok (.iload_n 3, 1) := by decide +kernel
theorem dX8_movesDoors_38 : decode cX8_movesDoors 38 = .ok (.iload 4, 2) := by decide +kernel
theorem dX8_movesDoors_40 : decode cX8_movesDoors 40 = .ok (.if_icmp .le 8, 3) := by decide +kernel
theorem dX8_movesDoors_43 : decode cX8_movesDoors 43 = .ok (.iload 4, 2) := by decide +kernel
theorem dX8_movesDoors_45 : decode cX8_movesDoors 45 = .ok (.goto 17, 3) := by decide +kernel
theorem dX8_movesDoors_48 : decode cX8_movesDoors 48 = .ok (.iload_n 3, 1) := by decide +kernel
theorem dX8_movesDoors_49 : decode cX8_movesDoors 49 = .ok (.iload 4, 2) := by decide +kernel
theorem dX8_movesDoors_51 : decode cX8_movesDoors 51 = .ok (.ineg, 1) := by decide +kernel
theorem dX8_movesDoors_52 : decode cX8_movesDoors 52 = .ok (.if_icmp .ge 9, 3) := by decide +kernel
theorem dX8_movesDoors_55 : decode cX8_movesDoors 55 = .ok (.iload 4, 2) := by decide +kernel
theorem dX8_movesDoors_57 : decode cX8_movesDoors 57 = .ok (.ineg, 1) := by decide +kernel
theorem dX8_movesDoors_58 : decode cX8_movesDoors 58 = .ok (.goto 4, 3) := by decide +kernel
theorem dX8_movesDoors_61 : decode cX8_movesDoors 61 = .ok (.iload_n 3, 1) := by decide +kernel
theorem dX8_movesDoors_62 : decode cX8_movesDoors 62 = .ok (.istore 5, 2) := by decide +kernel
theorem dX8_movesDoors_64 : decode cX8_movesDoors 64 = .ok (.aload_n 0, 1) := by decide +kernel
theorem dX8_movesDoors_65 : decode cX8_movesDoors 65 = .ok (.iload_n 2, 1) := by decide +kernel
theorem dX8_movesDoors_66 : decode cX8_movesDoors 66 = .ok (.iconst 5, 1) := by decide +kernel
theorem dX8_movesDoors_67 : decode cX8_movesDoors 67 = .ok (.iadd, 1) := by decide +kernel
theorem dX8_movesDoors_68 : decode cX8_movesDoors 68 = .ok (.dup2, 1) := by decide +kernel
theorem dX8_movesDoors_69 : decode cX8_movesDoors 69 = .ok (.iaload, 1) := by decide +kernel
theorem dX8_movesDoors_70 : decode cX8_movesDoors 70 = .ok (.iload 5, 2) := by decide +kernel
theorem dX8_movesDoors_72 : decode cX8_movesDoors 72 = .ok (.iadd, 1) := by decide +kernel
theorem dX8_movesDoors_73 : decode cX8_movesDoors 73 = .ok (.iastore, 1) := by decide +kernel
theorem dX8_movesDoors_74 : decode cX8_movesDoors 74 = .ok (.aload_n 0, 1) := by decide +kernel
theorem dX8_movesDoors_75 : decode cX8_movesDoors 75 = .ok (.bipush 6, 2) := by decide +kernel
theorem dX8_movesDoors_77 : decode cX8_movesDoors 77 = .ok (.dup2, 1) := by decide +kernel
theorem dX8_movesDoors_78 : decode cX8_movesDoors 78 = .ok (.iaload, 1) := by decide +kernel
theorem dX8_movesDoors_79 : decode cX8_movesDoors 79 = .ok (.iload 5, 2) := by decide +kernel
theorem dX8_movesDoors_81 : decode cX8_movesDoors 81 = .ok (.ifCond .le 27, 3) := by decide +kernel
theorem dX8_movesDoors_84 : decode cX8_movesDoors 84 = .ok (.aload_n 0, 1) := by decide +kernel
theorem dX8_movesDoors_85 : decode cX8_movesDoors 85 = .ok (.aload_n 0, 1) := by decide +kernel
theorem dX8_movesDoors_86 : decode cX8_movesDoors 86 = .ok (.iload_n 2, 1) := by decide +kernel
theorem dX8_movesDoors_87 : decode cX8_movesDoors 87 = .ok (.iaload, 1) := by decide +kernel
theorem dX8_movesDoors_88 : decode cX8_movesDoors 88 = .ok (.invokestatic 85, 3) := by decide +kernel
theorem dX8_movesDoors_91 : decode cX8_movesDoors 91 = .ok (.aload_n 0, 1) := by decide +kernel
theorem dX8_movesDoors_92 : decode cX8_movesDoors 92 = .ok (.aload_n 0, 1) := by decide +kernel
theorem dX8_movesDoors_93 : decode cX8_movesDoors 93 = .ok (.iload_n 2, 1) := by decide +kernel
theorem dX8_movesDoors_94 : decode cX8_movesDoors 94 = .ok (.iconst 1, 1) := by decide +kernel
theorem dX8_movesDoors_95 : decode cX8_movesDoors 95 = .ok (.iadd, 1) := by decide +kernel
theorem dX8_movesDoors_96 : decode cX8_movesDoors 96 = .ok (.iaload, 1) := by decide +kernel
theorem dX8_movesDoors_97 : decode cX8_movesDoors 97 = .ok (.invokestatic 85, 3) := by decide +kernel
theorem dX8_movesDoors_100 : decode cX8_movesDoors 100 = .ok (.iadd, 1) := by decide +kernel
theorem dX8_movesDoors_101 : decode cX8_movesDoors 101 = .ok (.ifCond .le 7, 3) := by decide +kernel
theorem dX8_movesDoors_104 : decode cX8_movesDoors 104 = .ok (.iconst 1, 1) := by decide +kernel
theorem dX8_movesDoors_105 : decode cX8_movesDoors 105 = .ok (.goto 4, 3) := by decide +kernel
theorem dX8_movesDoors_108 : decode cX8_movesDoors 108 = .ok (.iconst 0, 1) := by decide +kernel
theorem dX8_movesDoors_109 : decode cX8_movesDoors 109 = .ok (.iadd, 1) := by decide +kernel
theorem dX8_movesDoors_110 : decode cX8_movesDoors 110 = .ok (.iastore, 1) := by decide +kernel
theorem dX8_movesDoors_111 : decode cX8_movesDoors 111 = .ok (.iinc 1 1, 3) := by decide +kernel
theorem dX8_movesDoors_114 : decode cX8_movesDoors 114 = .ok (.goto (-112), 3) := by decide +kernel
theorem dX8_movesDoors_117 : decode cX8_movesDoors 117 = .ok (.return_, 1) := by decide +kernel
set_option maxRecDepth 20000 in
theorem ggX8_givesSounds_X8_entry : GoodIn wsX8_givesSounds wsX8_entry := goodIn_r _ [4] (by decide +kernel) (by decide +kernel)
set_option maxRecDepth 20000 in
theorem gX8_givesSounds_X8_entry : GoodIn wsX8_givesSounds (va_wsS RX8 72 yX8_entry wsX8_entry) := goodIn_app (goodIn_of _ (by decide +kernel)) ggX8_givesSounds_X8_entry
set_option maxRecDepth 20000 in
theorem ggX8_givesSounds_X8_isHeard : GoodIn wsX8_givesSounds wsX8_isHeard := goodIn_r _ [7, 1, 2, 3, 4, 8, 9, 10] (by decide +kernel) (by decide +kernel)
set_option maxRecDepth 20000 in
theorem gX8_givesSounds_X8_isHeard : GoodIn wsX8_givesSounds (va_wsS RX8 75 yX8_isHeard wsX8_isHeard) := goodIn_app (goodIn_of _ (by decide +kernel)) ggX8_givesSounds_X8_isHeard
set_option maxRecDepth 20000 in
theorem ggX8_givesSounds_X8_leaves : GoodIn wsX8_givesSounds wsX8_leaves := goodIn_r _ [13] (by decide +kernel) (by decide +kernel)
set_option maxRecDepth 20000 in
theorem gX8_givesSounds_X8_leaves : GoodIn wsX8_givesSounds (va_wsS RX8 112 yX8_leaves wsX8_leaves) := goodIn_app (goodIn_of _ (by decide +kernel)) ggX8_givesSounds_X8_leaves
theorem dX8_givesSounds_0 : decode cX8_givesSounds 0 = .ok (.iconst 0, 1) := by decide +kernel
theorem dX8_givesSounds_1 : decode cX8_givesSounds 1 = .ok (.istore_n 1, 1) := by decide +kernel
theorem dX8_givesSounds_2 : decode cX8_givesSounds 2 = .ok (.iload_n 1, 1) := by decide +kernel
theorem dX8_givesSounds_3 : decode cX8_givesSounds 3 = .ok (.aload_n 0, 1) := by decide +kernel
theorem dX8_givesSounds_4 : decode cX8_givesSounds 4 = .ok (.iconst 2, 1) := by decide +kernel
theorem dX8_givesSounds_5 : decode cX8_givesSounds 5 = .ok (.iaload, 1) := by decide +kernel
theorem dX8_givesSounds_6 : decode cX8_givesSounds 6 = .ok (.if_icmp .ge 100, 3) := by decide +kernel
theorem dX8_givesSounds_9 : decode cX8_givesSounds 9 = .ok (.aload_n 0, 1) := by decide +kernel
theorem dX8_givesSounds_10 : decode cX8_givesSounds 10 = .ok (.iload_n 1, 1) := by decide +kernel
theorem dX8_givesSounds_11 : decode cX8_givesSounds 11 = .ok (.iconst 2, 1) := by decide +kernel
theorem dX8_givesSounds_12 : decode cX8_givesSounds 12 = .ok (.invokestatic 72, 3) := by decide +kernel
theorem dX8_givesSounds_15 : decode cX8_givesSounds 15 = .ok (.istore_n 2, 1) := by decide +kernel
theorem dX8_givesSounds_16 : decode cX8_givesSounds 16 = .ok (.aload_n 0, 1) := by decide +kernel
theorem dX8_givesSounds_17 : decode cX8_givesSounds 17 = .ok (.iload_n 1, 1) := by decide +kernel
theorem dX8_givesSounds_18 : decode cX8_givesSounds 18 = .ok (.iload_n 2, 1) := by decide +kernel
theorem dX8_givesSounds_19 : decode cX8_givesSounds 19 = .ok (.invokestatic 75, 3) := by decide +kernel
theorem dX8_givesSounds_22 : decode cX8_givesSounds 22 = .ok (.istore_n 3, 1) := by decide +kernel
theorem dX8_givesSounds_23 : decode cX8_givesSounds 23 = .ok (.iload_n 3, 1) := by decide +kernel
theorem dX8_givesSounds_24 : decode cX8_givesSounds 24 = .ok (.ifCond .eq 43, 3) := by decide +kernel
theorem dX8_givesSounds_27 : decode cX8_givesSounds 27 = .ok (.aload_n 0, 1) := by decide +kernel
theorem dX8_givesSounds_28 : decode cX8_givesSounds 28 = .ok (.bipush 9, 2) := by decide +kernel
theorem dX8_givesSounds_30 : decode cX8_givesSounds 30 = .ok (.bipush 6, 2) := by decide +kernel
theorem dX8_givesSounds_32 : decode cX8_givesSounds 32 = .ok (.iload_n 2, 1) := by decide +kernel
theorem dX8_givesSounds_33 : decode cX8_givesSounds 33 = .ok (.imul, 1) := by decide +kernel
theorem dX8_givesSounds_34 : decode cX8_givesSounds 34 = .ok (.iadd, 1) := by decide +kernel
theorem dX8_givesSounds_35 : decode cX8_givesSounds 35 = .ok (.iconst 2, 1) := by decide +kernel
theorem dX8_givesSounds_36 : decode cX8_givesSounds 36 = .ok (.iadd, 1) := by decide +kernel
theorem dX8_givesSounds_37 : decode cX8_givesSounds 37 = .ok (.dup2, 1) := by decide +kernel
theorem dX8_givesSounds_38 : decode cX8_givesSounds 38 = .ok (.iaload, 1) := by decide +kernel
theorem dX8_givesSounds_39 : decode cX8_givesSounds 39 = .ok (.aload_n 0, 1) := by decide +kernel
theorem dX8_givesSounds_40 : decode cX8_givesSounds 40 = .ok (.iload_n 1, 1) := by decide +kernel
theorem dX8_givesSounds_41 : decode cX8_givesSounds 41 = .ok (.iconst 4, 1) := by decide +kernel
theorem dX8_givesSounds_42 : decode cX8_givesSounds 42 = .ok (.invokestatic 72, 3) := by decide +kernel
theorem dX8_givesSounds_45 : decode cX8_givesSounds 45 = .ok (.iadd, 1) := by decide +kernel
theorem dX8_givesSounds_46 : decode cX8_givesSounds 46 = .ok (.iastore, 1) := by decide +kernel
theorem dX8_givesSounds_47 : decode cX8_givesSounds 47 = .ok (.aload_n 0, 1) := by decide +kernel
theorem dX8_givesSounds_48 : decode cX8_givesSounds 48 = .ok (.bipush 9, 2) := by decide +kernel
theorem dX8_givesSounds_50 : decode cX8_givesSounds 50 = .ok (.bipush 6, 2) := by decide +kernel
theorem dX8_givesSounds_52 : decode cX8_givesSounds 52 = .ok (.iload_n 2, 1) := by decide +kernel
theorem dX8_givesSounds_53 : decode cX8_givesSounds 53 = .ok (.imul, 1) := by decide +kernel
theorem dX8_givesSounds_54 : decode cX8_givesSounds 54 = .ok (.iadd, 1) := by decide +kernel
theorem dX8_givesSounds_55 : decode cX8_givesSounds 55 = .ok (.iconst 4, 1) := by decide +kernel
theorem dX8_givesSounds_56 : decode cX8_givesSounds 56 = .ok (.iadd, 1) := by decide +kernel
theorem dX8_givesSounds_57 : decode cX8_givesSounds 57 = .ok (.dup2, 1) := by decide +kernel
theorem dX8_givesSounds_58 : decode cX8_givesSounds 58 = .ok (.iaload, 1) := by decide +kernel
theorem dX8_givesSounds_59 : decode cX8_givesSounds 59 = .ok (.aload_n 0, 1) := by decide +kernel
theorem dX8_givesSounds_60 : decode cX8_givesSounds 60 = .ok (.iload_n 1, 1) := by decide +kernel
theorem dX8_givesSounds_61 : decode cX8_givesSounds 61 = .ok (.iconst 4, 1) := by decide +kernel
theorem dX8_givesSounds_62 : decode cX8_givesSounds 62 = .ok (.invokestatic 72, 3) := by decide +kernel
theorem dX8_givesSounds_65 : decode cX8_givesSounds 65 = .ok (.iadd, 1) := by decide +kernel
theorem dX8_givesSounds_66 : decode cX8_givesSounds 66 = .ok (.iastore, 1) := by decide +kernel
theorem dX8_givesSounds_67 : decode cX8_givesSounds 67 = .ok (.iload_n 3, 1) := by decide +kernel
theorem dX8_givesSounds_68 : decode cX8_givesSounds 68 = .ok (.ifCond .eq 32, 3) := by decide +kernel
theorem dX8_givesSounds_71 : decode cX8_givesSounds 71 = .ok (.aload_n 0, 1) := by decide +kernel
theorem dX8_givesSounds_72 : decode cX8_givesSounds 72 = .ok (.iload_n 1, 1) := by decide +kernel
theorem dX8_givesSounds_73 : decode cX8_givesSounds 73 = .ok (.iconst 0, 1) := by decide +kernel
theorem dX8_givesSounds_74 : decode cX8_givesSounds 74 = .ok (.invokestatic 72, 3) := by decide +kernel
theorem dX8_givesSounds_77 : decode cX8_givesSounds 77 = .ok (.aload_n 0, 1) := by decide +kernel
theorem dX8_givesSounds_78 : decode cX8_givesSounds 78 = .ok (.iload_n 1, 1) := by decide +kernel
theorem dX8_givesSounds_79 : decode cX8_givesSounds 79 = .ok (.iconst 3, 1) := by decide +kernel
theorem dX8_givesSounds_80 : decode cX8_givesSounds 80 = .ok (.invokestatic 72, 3) := by decide +kernel
theorem dX8_givesSounds_83 : decode cX8_givesSounds 83 = .ok (.iadd, 1) := by decide +kernel
theorem dX8_givesSounds_84 : decode cX8_givesSounds 84 = .ok (.iconst 1, 1) := by decide +kernel
theorem dX8_givesSounds_85 : decode cX8_givesSounds 85 = .ok (.isub, 1) := by decide +kernel
theorem dX8_givesSounds_86 : decode cX8_givesSounds 86 = .ok (.aload_n 0, 1) := by decide +kernel
theorem dX8_givesSounds_87 : decode cX8_givesSounds 87 = .ok (.iconst 3, 1) := by decide +kernel
theorem dX8_givesSounds_88 : decode cX8_givesSounds 88 = .ok (.iaload, 1) := by decide +kernel
theorem dX8_givesSounds_89 : decode cX8_givesSounds 89 = .ok (.if_icmp .ne 11, 3) := by decide +kernel
theorem dX8_givesSounds_92 : decode cX8_givesSounds 92 = .ok (.aload_n 0, 1) := by decide +kernel
theorem dX8_givesSounds_93 : decode cX8_givesSounds 93 = .ok (.iload_n 1, 1) := by decide +kernel
theorem dX8_givesSounds_94 : decode cX8_givesSounds 94 = .ok (.invokestatic 112, 3) := by decide +kernel
theorem dX8_givesSounds_97 : decode cX8_givesSounds 97 = .ok (.goto 6, 3) := by decide +kernel
theorem dX8_givesSounds_100 : decode cX8_givesSounds 100 = .ok (.iinc 1 1, 3) := by decide +kernel
theorem dX8_givesSounds_103 : decode cX8_givesSounds 103 = .ok (.goto (-101), 3) := by decide +kernel
theorem dX8_givesSounds_106 : decode cX8_givesSounds 106 = .ok (.return_, 1) := by decide +kernel
theorem dX8_absorbs_0 : decode cX8_absorbs 0 = .ok (.iconst 0, 1) := by decide +kernel
theorem dX8_absorbs_1 : decode cX8_absorbs 1 = .ok (.istore_n 1, 1) := by decide +kernel
theorem dX8_absorbs_2 : decode cX8_absorbs 2 = .ok (.iload_n 1, 1) := by decide +kernel
theorem dX8_absorbs_3 : decode cX8_absorbs 3 = .ok (.aload_n 0, 1) := by decide +kernel
theorem dX8_absorbs_4 : decode cX8_absorbs 4 = .ok (.iconst 0, 1) := by decide +kernel
theorem dX8_absorbs_5 : decode cX8_absorbs 5 = .ok (.iaload, 1) := by decide +kernel
theorem dX8_absorbs_6 : decode cX8_absorbs 6 = .ok (.if_icmp .ge 58, 3) := by decide +kernel
theorem dX8_absorbs_9 : decode cX8_absorbs 9 = .ok (.bipush 9, 2) := by decide +kernel
theorem dX8_absorbs_11 : decode cX8_absorbs 11 = .ok (.bipush 6, 2) := by decide +kernel
theorem dX8_absorbs_13 : decode cX8_absorbs 13 = .ok (.iload_n 1, 1) := by decide +kernel
theorem dX8_absorbs_14 : decode cX8_absorbs 14 = .ok (.imul, 1) := by decide +kernel
theorem dX8_absorbs_15 : decode cX8_absorbs 15 = .ok (.iadd, 1) := by decide +kernel
theorem dX8_absorbs_16 : decode cX8_absorbs 16 = .ok (.istore_n 2, 1) := by decide +kernel
theorem dX8_absorbs_17 : decode cX8_absorbs 17 = .ok (.aload_n 0, 1) := by decide +kernel
theorem dX8_absorbs_18 : decode cX8_absorbs 18 = .ok (.iload_n 2, 1) := by decide +kernel
theorem dX8_absorbs_19 : decode cX8_absorbs 19 = .ok (.iconst 2, 1) := by decide +kernel
theorem dX8_absorbs_20 : decode cX8_absorbs 20 = .ok (.iadd, 1) := by decide +kernel
theorem dX8_absorbs_21 : decode cX8_absorbs 21 = .ok (.iaload, 1) := by decide +kernel
theorem dX8_absorbs_22 : decode cX8_absorbs 22 = .ok (.i2l, 1) := by decide +kernel
theorem dX8_absorbs_23 : decode cX8_absorbs 23 = .ok (.aload_n 0, 1) := by decide +kernel
theorem dX8_absorbs_24 : decode cX8_absorbs 24 = .ok (.iload_n 2, 1) := by decide +kernel
theorem dX8_absorbs_25 : decode cX8_absorbs 25 = .ok (.iconst 1, 1) := by decide +kernel
theorem dX8_absorbs_26 : decode cX8_absorbs 26 = .ok (.iadd, 1) := by decide +kernel
theorem dX8_absorbs_27 : decode cX8_absorbs 27 = .ok (.iaload, 1) := by decide +kernel
theorem dX8_absorbs_28 : decode cX8_absorbs 28 = .ok (.i2l, 1) := by decide +kernel
theorem dX8_absorbs_29 : decode cX8_absorbs 29 = .ok (.lmul, 1) := by decide +kernel
theorem dX8_absorbs_30 : decode cX8_absorbs 30 = .ok (.ldc2_w 116, 3) := by decide +kernel
theorem dX8_absorbs_33 : decode cX8_absorbs 33 = .ok (.ladd, 1) := by decide +kernel
theorem dX8_absorbs_34 : decode cX8_absorbs 34 = .ok (.ldc2_w 118, 3) := by decide +kernel
theorem dX8_absorbs_37 : decode cX8_absorbs 37 = .ok (.ldiv, 1) := by decide +kernel
theorem dX8_absorbs_38 : decode cX8_absorbs 38 = .ok (.l2i, 1) := by decide +kernel
theorem dX8_absorbs_39 : decode cX8_absorbs 39 = .ok (.istore_n 3, 1) := by decide +kernel
theorem dX8_absorbs_40 : decode cX8_absorbs 40 = .ok (.aload_n 0, 1) := by decide +kernel
theorem dX8_absorbs_41 : decode cX8_absorbs 41 = .ok (.iload_n 2, 1) := by decide +kernel
theorem dX8_absorbs_42 : decode cX8_absorbs 42 = .ok (.iconst 2, 1) := by decide +kernel
theorem dX8_absorbs_43 : decode cX8_absorbs 43 = .ok (.iadd, 1) := by decide +kernel
theorem dX8_absorbs_44 : decode cX8_absorbs 44 = .ok (.dup2, 1) := by decide +kernel
theorem dX8_absorbs_45 : decode cX8_absorbs 45 = .ok (.iaload, 1) := by decide +kernel
theorem dX8_absorbs_46 : decode cX8_absorbs 46 = .ok (.iload_n 3, 1) := by decide +kernel
theorem dX8_absorbs_47 : decode cX8_absorbs 47 = .ok (.isub, 1) := by decide +kernel
theorem dX8_absorbs_48 : decode cX8_absorbs 48 = .ok (.iastore, 1) := by decide +kernel
theorem dX8_absorbs_49 : decode cX8_absorbs 49 = .ok (.aload_n 0, 1) := by decide +kernel
theorem dX8_absorbs_50 : decode cX8_absorbs 50 = .ok (.iload_n 2, 1) := by decide +kernel
theorem dX8_absorbs_51 : decode cX8_absorbs 51 = .ok (.iconst 3, 1) := by decide +kernel
theorem dX8_absorbs_52 : decode cX8_absorbs 52 = .ok (.iadd, 1) := by decide +kernel
theorem dX8_absorbs_53 : decode cX8_absorbs 53 = .ok (.dup2, 1) := by decide +kernel
theorem dX8_absorbs_54 : decode cX8_absorbs 54 = .ok (.iaload, 1) := by decide +kernel
theorem dX8_absorbs_55 : decode cX8_absorbs 55 = .ok (.iload_n 3, 1) := by decide +kernel
theorem dX8_absorbs_56 : decode cX8_absorbs 56 = .ok (.iadd, 1) := by decide +kernel
theorem dX8_absorbs_57 : decode cX8_absorbs 57 = .ok (.iastore, 1) := by decide +kernel
theorem dX8_absorbs_58 : decode cX8_absorbs 58 = .ok (.iinc 1 1, 3) := by decide +kernel
theorem dX8_absorbs_61 : decode cX8_absorbs 61 = .ok (.goto (-59), 3) := by decide +kernel
theorem dX8_absorbs_64 : decode cX8_absorbs 64 = .ok (.return_, 1) := by decide +kernel
set_option maxRecDepth 20000 in
theorem ggX8_goesThrough_X8_through : GoodIn wsX8_goesThrough wsX8_through := goodIn_r _ [4, 5, 6, 7, 3, 8, 9, 10, 11] (by decide +kernel) (by decide +kernel)
set_option maxRecDepth 20000 in
theorem gX8_goesThrough_X8_through : GoodIn wsX8_goesThrough (va_wsS RX8 94 yX8_through wsX8_through) := goodIn_app (goodIn_of _ (by decide +kernel)) ggX8_goesThrough_X8_through
set_option maxRecDepth 20000 in
theorem ggX8_goesThrough_X8_ofDoor : GoodIn wsX8_goesThrough wsX8_ofDoor := goodIn_r _ [8] (by decide +kernel) (by decide +kernel)
set_option maxRecDepth 20000 in
theorem gX8_goesThrough_X8_ofDoor : GoodIn wsX8_goesThrough (va_wsS RX8 43 yX8_ofDoor wsX8_ofDoor) := goodIn_app (goodIn_of _ (by decide +kernel)) ggX8_goesThrough_X8_ofDoor
set_option maxRecDepth 20000 in
theorem ggX8_goesThrough_X8_arrive : GoodIn wsX8_goesThrough wsX8_arrive := goodIn_r _ [14, 6, 7, 3, 8] (by decide +kernel) (by decide +kernel)
set_option maxRecDepth 20000 in
theorem gX8_goesThrough_X8_arrive : GoodIn wsX8_goesThrough (va_wsS RX8 120 yX8_arrive wsX8_arrive) := goodIn_app (goodIn_of _ (by decide +kernel)) ggX8_goesThrough_X8_arrive
theorem dX8_goesThrough_0 : decode cX8_goesThrough 0 = .ok (.iconst 0, 1) := by decide +kernel
theorem dX8_goesThrough_1 : decode cX8_goesThrough 1 = .ok (.istore_n 2, 1) := by decide +kernel
theorem dX8_goesThrough_2 : decode cX8_goesThrough 2 = .ok (.iload_n 2, 1) := by decide +kernel
theorem dX8_goesThrough_3 : decode cX8_goesThrough 3 = .ok (.iconst 2, 1) := by decide +kernel
theorem dX8_goesThrough_4 : decode cX8_goesThrough 4 = .ok (.aload_n 0, 1) := by decide +kernel
theorem dX8_goesThrough_5 : decode cX8_goesThrough 5 = .ok (.iconst 1, 1) := by decide +kernel
theorem dX8_goesThrough_6 : decode cX8_goesThrough 6 = .ok (.iaload, 1) := by decide +kernel
theorem dX8_goesThrough_7 : decode cX8_goesThrough 7 = .ok (.imul, 1) := by decide +kernel
theorem dX8_goesThrough_8 : decode cX8_goesThrough 8 = .ok (.if_icmp .ge 22, 3) := by decide +kernel
theorem dX8_goesThrough_11 : decode cX8_goesThrough 11 = .ok (.aload_n 1, 1) := by decide +kernel
theorem dX8_goesThrough_12 : decode cX8_goesThrough 12 = .ok (.iload_n 2, 1) := by decide +kernel
theorem dX8_goesThrough_13 : decode cX8_goesThrough 13 = .ok (.aload_n 0, 1) := by decide +kernel
theorem dX8_goesThrough_14 : decode cX8_goesThrough 14 = .ok (.iload_n 2, 1) := by decide +kernel
theorem dX8_goesThrough_15 : decode cX8_goesThrough 15 = .ok (.iconst 2, 1) := by decide +kernel
theorem dX8_goesThrough_16 : decode cX8_goesThrough 16 = .ok (.idiv, 1) := by decide +kernel
theorem dX8_goesThrough_17 : decode cX8_goesThrough 17 = .ok (.iload_n 2, 1) := by decide +kernel
theorem dX8_goesThrough_18 : decode cX8_goesThrough 18 = .ok (.iconst 2, 1) := by decide +kernel
theorem dX8_goesThrough_19 : decode cX8_goesThrough 19 = .ok (.irem, 1) := by decide +kernel
theorem dX8_goesThrough_20 : decode cX8_goesThrough 20 = .ok (.invokestatic 94, 3) := by decide +kernel
theorem dX8_goesThrough_23 : decode cX8_goesThrough 23 = .ok (.iastore, 1) := by decide +kernel
theorem dX8_goesThrough_24 : decode cX8_goesThrough 24 = .ok (.iinc 2 1, 3) := by decide +kernel
theorem dX8_goesThrough_27 : decode cX8_goesThrough 27 = .ok (.goto (-25), 3) := by decide +kernel
theorem dX8_goesThrough_30 : decode cX8_goesThrough 30 = .ok (.iconst 0, 1) := by decide +kernel
theorem dX8_goesThrough_31 : decode cX8_goesThrough 31 = .ok (.istore_n 2, 1) := by decide +kernel
theorem dX8_goesThrough_32 : decode cX8_goesThrough 32 = .ok (.iload_n 2, 1) := by decide +kernel
theorem dX8_goesThrough_33 : decode cX8_goesThrough 33 = .ok (.iconst 2, 1) := by decide +kernel
theorem dX8_goesThrough_34 : decode cX8_goesThrough 34 = .ok (.aload_n 0, 1) := by decide +kernel
theorem dX8_goesThrough_35 : decode cX8_goesThrough 35 = .ok (.iconst 1, 1) := by decide +kernel
theorem dX8_goesThrough_36 : decode cX8_goesThrough 36 = .ok (.iaload, 1) := by decide +kernel
theorem dX8_goesThrough_37 : decode cX8_goesThrough 37 = .ok (.imul, 1) := by decide +kernel
theorem dX8_goesThrough_38 : decode cX8_goesThrough 38 = .ok (.if_icmp .ge 102, 3) := by decide +kernel
theorem dX8_goesThrough_41 : decode cX8_goesThrough 41 = .ok (.iload_n 2, 1) := by decide +kernel
theorem dX8_goesThrough_42 : decode cX8_goesThrough 42 = .ok (.iconst 2, 1) := by decide +kernel
theorem dX8_goesThrough_43 : decode cX8_goesThrough 43 = .ok (.idiv, 1) := by decide +kernel
theorem dX8_goesThrough_44 : decode cX8_goesThrough 44 = .ok (.istore_n 3, 1) := by decide +kernel
theorem dX8_goesThrough_45 : decode cX8_goesThrough 45 = .ok (.iload_n 2, 1) := by decide +kernel
theorem dX8_goesThrough_46 : decode cX8_goesThrough 46 = .ok (.iconst 2, 1) := by decide +kernel
theorem dX8_goesThrough_47 : decode cX8_goesThrough 47 = .ok (.irem, 1) := by decide +kernel
theorem dX8_goesThrough_48 : decode cX8_goesThrough 48 = .ok (.istore 4, 2) := by decide +kernel
theorem dX8_goesThrough_50 : decode cX8_goesThrough 50 = .ok (.aload_n 0, 1) := by decide +kernel
theorem dX8_goesThrough_51 : decode cX8_goesThrough 51 = .ok (.iload_n 3, 1) := by decide +kernel
theorem dX8_goesThrough_52 : decode cX8_goesThrough 52 = .ok (.iload 4, 2) := by decide +kernel
theorem dX8_goesThrough_54 : decode cX8_goesThrough 54 = .ok (.invokestatic 43, 3) := by decide +kernel
theorem dX8_goesThrough_57 : decode cX8_goesThrough 57 = .ok (.istore 5, 2) := by decide +kernel
theorem dX8_goesThrough_59 : decode cX8_goesThrough 59 = .ok (.iload 5, 2) := by decide +kernel
theorem dX8_goesThrough_61 : decode cX8_goesThrough 61 = .ok (.bipush 8, 2) := by decide +kernel
theorem dX8_goesThrough_63 : decode cX8_goesThrough 63 = .ok (.if_icmp .eq 21, 3) := by decide +kernel
theorem dX8_goesThrough_66 : decode cX8_goesThrough 66 = .ok (.aload_n 0, 1) := by decide +kernel
theorem dX8_goesThrough_67 : decode cX8_goesThrough 67 = .ok (.bipush 9, 2) := by decide +kernel
theorem dX8_goesThrough_69 : decode cX8_goesThrough 69 = .ok (.bipush 6, 2) := by decide +kernel
theorem dX8_goesThrough_71 : decode cX8_goesThrough 71 = .ok (.iload 5, 2) := by decide +kernel
theorem dX8_goesThrough_73 : decode cX8_goesThrough 73 = .ok (.imul, 1) := by decide +kernel
theorem dX8_goesThrough_74 : decode cX8_goesThrough 74 = .ok (.iadd, 1) := by decide +kernel
theorem dX8_goesThrough_75 : decode cX8_goesThrough 75 = .ok (.iconst 2, 1) := by decide +kernel
theorem dX8_goesThrough_76 : decode cX8_goesThrough 76 = .ok (.iadd, 1) := by decide +kernel
theorem dX8_goesThrough_77 : decode cX8_goesThrough 77 = .ok (.dup2, 1) := by decide +kernel
theorem dX8_goesThrough_78 : decode cX8_goesThrough 78 = .ok (.iaload, 1) := by decide +kernel
theorem dX8_goesThrough_79 : decode cX8_goesThrough 79 = .ok (.aload_n 1, 1) := by decide +kernel
theorem dX8_goesThrough_80 : decode cX8_goesThrough 80 = .ok (.iload_n 2, 1) := by decide +kernel
theorem dX8_goesThrough_81 : decode cX8_goesThrough 81 = .ok (.iaload, 1) := by decide +kernel
theorem dX8_goesThrough_82 : decode cX8_goesThrough 82 = .ok (.isub, 1) := by decide +kernel
theorem dX8_goesThrough_83 : decode cX8_goesThrough 83 = .ok (.iastore, 1) := by decide +kernel
theorem dX8_goesThrough_84 : decode cX8_goesThrough 84 = .ok (.aload_n 0, 1) := by decide +kernel
theorem dX8_goesThrough_85 : decode cX8_goesThrough 85 = .ok (.bipush 57, 2) := by decide +kernel
theorem dX8_goesThrough_87 : decode cX8_goesThrough 87 = .ok (.bipush 10, 2) := by decide +kernel
theorem dX8_goesThrough_89 : decode cX8_goesThrough 89 = .ok (.iload_n 3, 1) := by decide +kernel
theorem dX8_goesThrough_90 : decode cX8_goesThrough 90 = .ok (.imul, 1) := by decide +kernel
theorem dX8_goesThrough_91 : decode cX8_goesThrough 91 = .ok (.iadd, 1) := by decide +kernel
theorem dX8_goesThrough_92 : decode cX8_goesThrough 92 = .ok (.bipush 8, 2) := by decide +kernel
theorem dX8_goesThrough_94 : decode cX8_goesThrough 94 = .ok (.iadd, 1) := by decide +kernel
theorem dX8_goesThrough_95 : decode cX8_goesThrough 95 = .ok (.iload 4, 2) := by decide +kernel
theorem dX8_goesThrough_97 : decode cX8_goesThrough 97 = .ok (.iadd, 1) := by decide +kernel
theorem dX8_goesThrough_98 : decode cX8_goesThrough 98 = .ok (.dup2, 1) := by decide +kernel
theorem dX8_goesThrough_99 : decode cX8_goesThrough 99 = .ok (.iaload, 1) := by decide +kernel
theorem dX8_goesThrough_100 : decode cX8_goesThrough 100 = .ok (.aload_n 1, 1) := by decide +kernel
theorem dX8_goesThrough_101 : decode cX8_goesThrough 101 = .ok (.iload_n 2, 1) := by decide +kernel
theorem dX8_goesThrough_102 : decode cX8_goesThrough 102 = .ok (.iaload, 1) := by decide +kernel
theorem dX8_goesThrough_103 : decode cX8_goesThrough 103 = .ok (.iadd, 1) := by decide +kernel
theorem dX8_goesThrough_104 : decode cX8_goesThrough 104 = .ok (.iastore, 1) := by decide +kernel
theorem dX8_goesThrough_105 : decode cX8_goesThrough 105 = .ok (.aload_n 0, 1) := by decide +kernel
theorem dX8_goesThrough_106 : decode cX8_goesThrough 106 = .ok (.sipush 177, 3) := by decide +kernel
theorem dX8_goesThrough_109 : decode cX8_goesThrough 109 = .ok (.bipush 12, 2) := by decide +kernel
theorem dX8_goesThrough_111 : decode cX8_goesThrough 111 = .ok (.iload_n 3, 1) := by decide +kernel
theorem dX8_goesThrough_112 : decode cX8_goesThrough 112 = .ok (.imul, 1) := by decide +kernel
theorem dX8_goesThrough_113 : decode cX8_goesThrough 113 = .ok (.iadd, 1) := by decide +kernel
theorem dX8_goesThrough_114 : decode cX8_goesThrough 114 = .ok (.bipush 6, 2) := by decide +kernel
theorem dX8_goesThrough_116 : decode cX8_goesThrough 116 = .ok (.iload 4, 2) := by decide +kernel
theorem dX8_goesThrough_118 : decode cX8_goesThrough 118 = .ok (.imul, 1) := by decide +kernel
theorem dX8_goesThrough_119 : decode cX8_goesThrough 119 = .ok (.iadd, 1) := by decide +kernel
theorem dX8_goesThrough_120 : decode cX8_goesThrough 120 = .ok (.aload_n 0, 1) := by decide +kernel
theorem dX8_goesThrough_121 : decode cX8_goesThrough 121 = .ok (.iload_n 3, 1) := by decide +kernel
theorem dX8_goesThrough_122 : decode cX8_goesThrough 122 = .ok (.iconst 4, 1) := by decide +kernel
theorem dX8_goesThrough_123 : decode cX8_goesThrough 123 = .ok (.invokestatic 43, 3) := by decide +kernel
theorem dX8_goesThrough_126 : decode cX8_goesThrough 126 = .ok (.iadd, 1) := by decide +kernel
theorem dX8_goesThrough_127 : decode cX8_goesThrough 127 = .ok (.dup2, 1) := by decide +kernel
theorem dX8_goesThrough_128 : decode cX8_goesThrough 128 = .ok (.iaload, 1) := by decide +kernel
theorem dX8_goesThrough_129 : decode cX8_goesThrough 129 = .ok (.aload_n 1, 1) := by decide +kernel
theorem dX8_goesThrough_130 : decode cX8_goesThrough 130 = .ok (.iload_n 2, 1) := by decide +kernel
theorem dX8_goesThrough_131 : decode cX8_goesThrough 131 = .ok (.iaload, 1) := by decide +kernel
theorem dX8_goesThrough_132 : decode cX8_goesThrough 132 = .ok (.iadd, 1) := by decide +kernel
theorem dX8_goesThrough_133 : decode cX8_goesThrough 133 = .ok (.iastore, 1) := by decide +kernel
theorem dX8_goesThrough_134 : decode cX8_goesThrough 134 = .ok (.iinc 2 1, 3) := by decide +kernel
theorem dX8_goesThrough_137 : decode cX8_goesThrough 137 = .ok (.goto (-105), 3) := by decide +kernel
theorem dX8_goesThrough_140 : decode cX8_goesThrough 140 = .ok (.iconst 0, 1) := by decide +kernel
theorem dX8_goesThrough_141 : decode cX8_goesThrough 141 = .ok (.istore_n 2, 1) := by decide +kernel
theorem dX8_goesThrough_142 : decode cX8_goesThrough 142 = .ok (.iload_n 2, 1) := by decide +kernel
theorem dX8_goesThrough_143 : decode cX8_goesThrough 143 = .ok (.iconst 2, 1) := by decide +kernel
theorem dX8_goesThrough_144 : decode cX8_goesThrough 144 = .ok (.aload_n 0, 1) := by decide +kernel
theorem dX8_goesThrough_145 : decode cX8_goesThrough 145 = .ok (.iconst 1, 1) := by decide +kernel
theorem dX8_goesThrough_146 : decode cX8_goesThrough 146 = .ok (.iaload, 1) := by decide +kernel
theorem dX8_goesThrough_147 : decode cX8_goesThrough 147 = .ok (.imul, 1) := by decide +kernel
theorem dX8_goesThrough_148 : decode cX8_goesThrough 148 = .ok (.if_icmp .ge 19, 3) := by decide +kernel
theorem dX8_goesThrough_151 : decode cX8_goesThrough 151 = .ok (.aload_n 0, 1) := by decide +kernel
theorem dX8_goesThrough_152 : decode cX8_goesThrough 152 = .ok (.iload_n 2, 1) := by decide +kernel
theorem dX8_goesThrough_153 : decode cX8_goesThrough 153 = .ok (.iconst 2, 1) := by decide +kernel
theorem dX8_goesThrough_154 : decode cX8_goesThrough 154 = .ok (.idiv, 1) := by decide +kernel
theorem dX8_goesThrough_155 : decode cX8_goesThrough 155 = .ok (.iload_n 2, 1) := by decide +kernel
theorem dX8_goesThrough_156 : decode cX8_goesThrough 156 = .ok (.iconst 2, 1) := by decide +kernel
theorem dX8_goesThrough_157 : decode cX8_goesThrough 157 = .ok (.irem, 1) := by decide +kernel
theorem dX8_goesThrough_158 : decode cX8_goesThrough 158 = .ok (.invokestatic 120, 3) := by decide +kernel
theorem dX8_goesThrough_161 : decode cX8_goesThrough 161 = .ok (.iinc 2 1, 3) := by decide +kernel
theorem dX8_goesThrough_164 : decode cX8_goesThrough 164 = .ok (.goto (-22), 3) := by decide +kernel
theorem dX8_goesThrough_167 : decode cX8_goesThrough 167 = .ok (.return_, 1) := by decide +kernel
set_option maxRecDepth 20000 in
theorem ggX8_arrive_X8_ofDoor : GoodIn wsX8_arrive wsX8_ofDoor := goodIn_r _ [4] (by decide +kernel) (by decide +kernel)
set_option maxRecDepth 20000 in
theorem gX8_arrive_X8_ofDoor : GoodIn wsX8_arrive (va_wsS RX8 43 yX8_ofDoor wsX8_ofDoor) := goodIn_app (goodIn_of _ (by decide +kernel)) ggX8_arrive_X8_ofDoor
theorem dX8_arrive_0 : decode cX8_arrive 0 = .ok (.sipush 177, 3) := by decide +kernel
theorem dX8_arrive_3 : decode cX8_arrive 3 = .ok (.bipush 12, 2) := by decide +kernel
theorem dX8_arrive_5 : decode cX8_arrive 5 = .ok (.iload_n 1, 1) := by decide +kernel
theorem dX8_arrive_6 : decode cX8_arrive 6 = .ok (.imul, 1) := by decide +kernel
theorem dX8_arrive_7 : decode cX8_arrive 7 = .ok (.iadd, 1) := by decide +kernel
theorem dX8_arrive_8 : decode cX8_arrive 8 = .ok (.bipush 6, 2) := by decide +kernel
theorem dX8_arrive_10 : decode cX8_arrive 10 = .ok (.iload_n 2, 1) := by decide +kernel
theorem dX8_arrive_11 : decode cX8_arrive 11 = .ok (.imul, 1) := by decide +kernel
theorem dX8_arrive_12 : decode cX8_arrive 12 = .ok (.iadd, 1) := by decide +kernel
theorem dX8_arrive_13 : decode cX8_arrive 13 = .ok (.istore_n 3, 1) := by decide +kernel
theorem dX8_arrive_14 : decode cX8_arrive 14 = .ok (.aload_n 0, 1) := by decide +kernel
theorem dX8_arrive_15 : decode cX8_arrive 15 = .ok (.iload_n 1, 1) := by decide +kernel
theorem dX8_arrive_16 : decode cX8_arrive 16 = .ok (.iconst 1, 1) := by decide +kernel
theorem dX8_arrive_17 : decode cX8_arrive 17 = .ok (.iload_n 2, 1) := by decide +kernel
theorem dX8_arrive_18 : decode cX8_arrive 18 = .ok (.isub, 1) := by decide +kernel
theorem dX8_arrive_19 : decode cX8_arrive 19 = .ok (.invokestatic 43, 3) := by decide +kernel
theorem dX8_arrive_22 : decode cX8_arrive 22 = .ok (.istore 4, 2) := by decide +kernel
theorem dX8_arrive_24 : decode cX8_arrive 24 = .ok (.iload 4, 2) := by decide +kernel
theorem dX8_arrive_26 : decode cX8_arrive 26 = .ok (.bipush 8, 2) := by decide +kernel
theorem dX8_arrive_28 : decode cX8_arrive 28 = .ok (.if_icmp .ne 15, 3) := by decide +kernel
theorem dX8_arrive_31 : decode cX8_arrive 31 = .ok (.aload_n 0, 1) := by decide +kernel
theorem dX8_arrive_32 : decode cX8_arrive 32 = .ok (.iconst 4, 1) := by decide +kernel
theorem dX8_arrive_33 : decode cX8_arrive 33 = .ok (.dup2, 1) := by decide +kernel
theorem dX8_arrive_34 : decode cX8_arrive 34 = .ok (.iaload, 1) := by decide +kernel
theorem dX8_arrive_35 : decode cX8_arrive 35 = .ok (.aload_n 0, 1) := by decide +kernel
theorem dX8_arrive_36 : decode cX8_arrive 36 = .ok (.iload_n 3, 1) := by decide +kernel
theorem dX8_arrive_37 : decode cX8_arrive 37 = .ok (.iaload, 1) := by decide +kernel
theorem dX8_arrive_38 : decode cX8_arrive 38 = .ok (.iadd, 1) := by decide +kernel
theorem dX8_arrive_39 : decode cX8_arrive 39 = .ok (.iastore, 1) := by decide +kernel
theorem dX8_arrive_40 : decode cX8_arrive 40 = .ok (.goto 21, 3) := by decide +kernel
theorem dX8_arrive_43 : decode cX8_arrive 43 = .ok (.aload_n 0, 1) := by decide +kernel
theorem dX8_arrive_44 : decode cX8_arrive 44 = .ok (.bipush 9, 2) := by decide +kernel
theorem dX8_arrive_46 : decode cX8_arrive 46 = .ok (.bipush 6, 2) := by decide +kernel
theorem dX8_arrive_48 : decode cX8_arrive 48 = .ok (.iload 4, 2) := by decide +kernel
theorem dX8_arrive_50 : decode cX8_arrive 50 = .ok (.imul, 1) := by decide +kernel
theorem dX8_arrive_51 : decode cX8_arrive 51 = .ok (.iadd, 1) := by decide +kernel
theorem dX8_arrive_52 : decode cX8_arrive 52 = .ok (.iconst 2, 1) := by decide +kernel
theorem dX8_arrive_53 : decode cX8_arrive 53 = .ok (.iadd, 1) := by decide +kernel
theorem dX8_arrive_54 : decode cX8_arrive 54 = .ok (.dup2, 1) := by decide +kernel
theorem dX8_arrive_55 : decode cX8_arrive 55 = .ok (.iaload, 1) := by decide +kernel
theorem dX8_arrive_56 : decode cX8_arrive 56 = .ok (.aload_n 0, 1) := by decide +kernel
theorem dX8_arrive_57 : decode cX8_arrive 57 = .ok (.iload_n 3, 1) := by decide +kernel
theorem dX8_arrive_58 : decode cX8_arrive 58 = .ok (.iaload, 1) := by decide +kernel
theorem dX8_arrive_59 : decode cX8_arrive 59 = .ok (.iadd, 1) := by decide +kernel
theorem dX8_arrive_60 : decode cX8_arrive 60 = .ok (.iastore, 1) := by decide +kernel
theorem dX8_arrive_61 : decode cX8_arrive 61 = .ok (.iconst 0, 1) := by decide +kernel
theorem dX8_arrive_62 : decode cX8_arrive 62 = .ok (.istore 5, 2) := by decide +kernel
theorem dX8_arrive_64 : decode cX8_arrive 64 = .ok (.iload 5, 2) := by decide +kernel
theorem dX8_arrive_66 : decode cX8_arrive 66 = .ok (.iconst 5, 1) := by decide +kernel
theorem dX8_arrive_67 : decode cX8_arrive 67 = .ok (.if_icmp .ge 23, 3) := by decide +kernel
theorem dX8_arrive_70 : decode cX8_arrive 70 = .ok (.aload_n 0, 1) := by decide +kernel
theorem dX8_arrive_71 : decode cX8_arrive 71 = .ok (.iload_n 3, 1) := by decide +kernel
theorem dX8_arrive_72 : decode cX8_arrive 72 = .ok (.iload 5, 2) := by decide +kernel
theorem dX8_arrive_74 : decode cX8_arrive 74 = .ok (.iadd, 1) := by decide +kernel
theorem dX8_arrive_75 : decode cX8_arrive 75 = .ok (.aload_n 0, 1) := by decide +kernel
theorem dX8_arrive_76 : decode cX8_arrive 76 = .ok (.iload_n 3, 1) := by decide +kernel
theorem dX8_arrive_77 : decode cX8_arrive 77 = .ok (.iload 5, 2) := by decide +kernel
theorem dX8_arrive_79 : decode cX8_arrive 79 = .ok (.iadd, 1) := by decide +kernel
theorem dX8_arrive_80 : decode cX8_arrive 80 = .ok (.iconst 1, 1) := by decide +kernel
theorem dX8_arrive_81 : decode cX8_arrive 81 = .ok (.iadd, 1) := by decide +kernel
theorem dX8_arrive_82 : decode cX8_arrive 82 = .ok (.iaload, 1) := by decide +kernel
theorem dX8_arrive_83 : decode cX8_arrive 83 = .ok (.iastore, 1) := by decide +kernel
theorem dX8_arrive_84 : decode cX8_arrive 84 = .ok (.iinc 5 1, 3) := by decide +kernel
theorem dX8_arrive_87 : decode cX8_arrive 87 = .ok (.goto (-23), 3) := by decide +kernel
theorem dX8_arrive_90 : decode cX8_arrive 90 = .ok (.aload_n 0, 1) := by decide +kernel
theorem dX8_arrive_91 : decode cX8_arrive 91 = .ok (.iload_n 3, 1) := by decide +kernel
theorem dX8_arrive_92 : decode cX8_arrive 92 = .ok (.iconst 5, 1) := by decide +kernel
theorem dX8_arrive_93 : decode cX8_arrive 93 = .ok (.iadd, 1) := by decide +kernel
theorem dX8_arrive_94 : decode cX8_arrive 94 = .ok (.iconst 0, 1) := by decide +kernel
theorem dX8_arrive_95 : decode cX8_arrive 95 = .ok (.iastore, 1) := by decide +kernel
theorem dX8_arrive_96 : decode cX8_arrive 96 = .ok (.return_, 1) := by decide +kernel
set_option maxRecDepth 20000 in
theorem ggX8_goes_X8_inRoom : GoodIn wsX8_goes wsX8_inRoom := goodIn_r _ [5] (by decide +kernel) (by decide +kernel)
set_option maxRecDepth 20000 in
theorem gX8_goes_X8_inRoom : GoodIn wsX8_goes (va_wsS RX8 51 yX8_inRoom wsX8_inRoom) := goodIn_app (goodIn_of _ (by decide +kernel)) ggX8_goes_X8_inRoom
set_option maxRecDepth 20000 in
theorem ggX8_goes_X8_givesTargets : GoodIn wsX8_goes wsX8_givesTargets := goodIn_r _ [8, 9, 10, 4, 11, 12, 13, 14] (by decide +kernel) (by decide +kernel)
set_option maxRecDepth 20000 in
theorem gX8_goes_X8_givesTargets : GoodIn wsX8_goes (va_wsS RX8 124 yX8_givesTargets wsX8_givesTargets) := goodIn_app (goodIn_of _ (by decide +kernel)) ggX8_goes_X8_givesTargets
set_option maxRecDepth 20000 in
theorem ggX8_goes_X8_movesDoors : GoodIn wsX8_goes wsX8_movesDoors := goodIn_r _ [17, 18, 19, 4, 20, 21, 22, 23, 9, 10, 11, 24, 25, 26] (by decide +kernel) (by decide +kernel)
set_option maxRecDepth 20000 in
theorem gX8_goes_X8_movesDoors : GoodIn wsX8_goes (va_wsS RX8 128 yX8_movesDoors wsX8_movesDoors) := goodIn_app (goodIn_of _ (by decide +kernel)) ggX8_goes_X8_movesDoors
set_option maxRecDepth 20000 in
theorem ggX8_goes_X8_givesSounds : GoodIn wsX8_goes wsX8_givesSounds := goodIn_r _ [29, 9, 10, 4, 11, 21, 22, 23, 24, 25, 26, 12, 13, 14] (by decide +kernel) (by decide +kernel)
set_option maxRecDepth 20000 in
theorem gX8_goes_X8_givesSounds : GoodIn wsX8_goes (va_wsS RX8 131 yX8_givesSounds wsX8_givesSounds) := goodIn_app (goodIn_of _ (by decide +kernel)) ggX8_goes_X8_givesSounds
set_option maxRecDepth 20000 in
theorem ggX8_goes_X8_absorbs : GoodIn wsX8_goes wsX8_absorbs := goodIn_r _ [32, 33, 34] (by decide +kernel) (by decide +kernel)
set_option maxRecDepth 20000 in
theorem gX8_goes_X8_absorbs : GoodIn wsX8_goes (va_wsS RX8 134 yX8_absorbs wsX8_absorbs) := goodIn_app (goodIn_of _ (by decide +kernel)) ggX8_goes_X8_absorbs
set_option maxRecDepth 20000 in
theorem ggX8_goes_X8_goesThrough : GoodIn wsX8_goes wsX8_goesThrough := goodIn_r _ [37, 38, 39, 4, 40, 41, 42, 43, 44, 2, 3, 5, 45, 46, 47] (by decide +kernel) (by decide +kernel)
set_option maxRecDepth 20000 in
theorem gX8_goes_X8_goesThrough : GoodIn wsX8_goes (va_wsS RX8 137 yX8_goesThrough wsX8_goesThrough) := goodIn_app (goodIn_of _ (by decide +kernel)) ggX8_goes_X8_goesThrough
theorem dX8_goes_0 : decode cX8_goes 0 = .ok (.iconst 0, 1) := by decide +kernel
theorem dX8_goes_1 : decode cX8_goes 1 = .ok (.istore_n 2, 1) := by decide +kernel
theorem dX8_goes_2 : decode cX8_goes 2 = .ok (.iload_n 2, 1) := by decide +kernel
theorem dX8_goes_3 : decode cX8_goes 3 = .ok (.aload_n 1, 1) := by decide +kernel
theorem dX8_goes_4 : decode cX8_goes 4 = .ok (.iconst 0, 1) := by decide +kernel
theorem dX8_goes_5 : decode cX8_goes 5 = .ok (.iaload, 1) := by decide +kernel
theorem dX8_goes_6 : decode cX8_goes 6 = .ok (.if_icmp .ge 56, 3) := by decide +kernel
theorem dX8_goes_9 : decode cX8_goes 9 = .ok (.sipush 401, 3) := by decide +kernel
theorem dX8_goes_12 : decode cX8_goes 12 = .ok (.bipush 32, 2) := by decide +kernel
theorem dX8_goes_14 : decode cX8_goes 14 = .ok (.iload_n 2, 1) := by decide +kernel
theorem dX8_goes_15 : decode cX8_goes 15 = .ok (.imul, 1) := by decide +kernel
theorem dX8_goes_16 : decode cX8_goes 16 = .ok (.iadd, 1) := by decide +kernel
theorem dX8_goes_17 : decode cX8_goes 17 = .ok (.istore_n 3, 1) := by decide +kernel
theorem dX8_goes_18 : decode cX8_goes 18 = .ok (.bipush 31, 2) := by decide +kernel
theorem dX8_goes_20 : decode cX8_goes 20 = .ok (.istore 4, 2) := by decide +kernel
theorem dX8_goes_22 : decode cX8_goes 22 = .ok (.iload 4, 2) := by decide +kernel
theorem dX8_goes_24 : decode cX8_goes 24 = .ok (.ifCond .le 23, 3) := by decide +kernel
theorem dX8_goes_27 : decode cX8_goes 27 = .ok (.aload_n 1, 1) := by decide +kernel
theorem dX8_goes_28 : decode cX8_goes 28 = .ok (.iload_n 3, 1) := by decide +kernel
theorem dX8_goes_29 : decode cX8_goes 29 = .ok (.iload 4, 2) := by decide +kernel
theorem dX8_goes_31 : decode cX8_goes 31 = .ok (.iadd, 1) := by decide +kernel
theorem dX8_goes_32 : decode cX8_goes 32 = .ok (.aload_n 1, 1) := by decide +kernel
theorem dX8_goes_33 : decode cX8_goes 33 = .ok (.iload_n 3, 1) := by decide +kernel
theorem dX8_goes_34 : decode cX8_goes 34 = .ok (.iload 4, 2) := by decide +kernel
theorem dX8_goes_36 : decode cX8_goes 36 = .ok (.iadd, 1) := by decide +kernel
theorem dX8_goes_37 : decode cX8_goes 37 = .ok (.iconst 1, 1) := by decide +kernel
theorem dX8_goes_38 : decode cX8_goes 38 = .ok (.isub, 1) := by decide +kernel
theorem dX8_goes_39 : decode cX8_goes 39 = .ok (.iaload, 1) := by decide +kernel
theorem dX8_goes_40 : decode cX8_goes 40 = .ok (.iastore, 1) := by decide +kernel
theorem dX8_goes_41 : decode cX8_goes 41 = .ok (.iinc 4 (-1), 3) := by decide +kernel
theorem dX8_goes_44 : decode cX8_goes 44 = .ok (.goto (-22), 3) := by decide +kernel
theorem dX8_goes_47 : decode cX8_goes 47 = .ok (.aload_n 1, 1) := by decide +kernel
theorem dX8_goes_48 : decode cX8_goes 48 = .ok (.iload_n 3, 1) := by decide +kernel
theorem dX8_goes_49 : decode cX8_goes 49 = .ok (.aload_n 1, 1) := by decide +kernel
theorem dX8_goes_50 : decode cX8_goes 50 = .ok (.iload_n 2, 1) := by decide +kernel
theorem dX8_goes_51 : decode cX8_goes 51 = .ok (.iconst 2, 1) := by decide +kernel
theorem dX8_goes_52 : decode cX8_goes 52 = .ok (.invokestatic 51, 3) := by decide +kernel
theorem dX8_goes_55 : decode cX8_goes 55 = .ok (.iastore, 1) := by decide +kernel
theorem dX8_goes_56 : decode cX8_goes 56 = .ok (.iinc 2 1, 3) := by decide +kernel
theorem dX8_goes_59 : decode cX8_goes 59 = .ok (.goto (-57), 3) := by decide +kernel
theorem dX8_goes_62 : decode cX8_goes 62 = .ok (.aload_n 1, 1) := by decide +kernel
theorem dX8_goes_63 : decode cX8_goes 63 = .ok (.invokestatic 124, 3) := by decide +kernel
theorem dX8_goes_66 : decode cX8_goes 66 = .ok (.aload_n 1, 1) := by decide +kernel
theorem dX8_goes_67 : decode cX8_goes 67 = .ok (.invokestatic 128, 3) := by decide +kernel
theorem dX8_goes_70 : decode cX8_goes 70 = .ok (.aload_n 1, 1) := by decide +kernel
theorem dX8_goes_71 : decode cX8_goes 71 = .ok (.invokestatic 131, 3) := by decide +kernel
theorem dX8_goes_74 : decode cX8_goes 74 = .ok (.aload_n 1, 1) := by decide +kernel
theorem dX8_goes_75 : decode cX8_goes 75 = .ok (.invokestatic 134, 3) := by decide +kernel
theorem dX8_goes_78 : decode cX8_goes 78 = .ok (.aload_n 1, 1) := by decide +kernel
theorem dX8_goes_79 : decode cX8_goes 79 = .ok (.aload_n 0, 1) := by decide +kernel
theorem dX8_goes_80 : decode cX8_goes 80 = .ok (.getfield 22, 3) := by decide +kernel
theorem dX8_goes_83 : decode cX8_goes 83 = .ok (.invokestatic 137, 3) := by decide +kernel
theorem dX8_goes_86 : decode cX8_goes 86 = .ok (.aload_n 1, 1) := by decide +kernel
theorem dX8_goes_87 : decode cX8_goes 87 = .ok (.iconst 3, 1) := by decide +kernel
theorem dX8_goes_88 : decode cX8_goes 88 = .ok (.dup2, 1) := by decide +kernel
theorem dX8_goes_89 : decode cX8_goes 89 = .ok (.iaload, 1) := by decide +kernel
theorem dX8_goes_90 : decode cX8_goes 90 = .ok (.iconst 1, 1) := by decide +kernel
theorem dX8_goes_91 : decode cX8_goes 91 = .ok (.iadd, 1) := by decide +kernel
theorem dX8_goes_92 : decode cX8_goes 92 = .ok (.iastore, 1) := by decide +kernel
theorem dX8_goes_93 : decode cX8_goes 93 = .ok (.return_, 1) := by decide +kernel
set_option maxRecDepth 20000 in
theorem ggX8_pass_X8_in : GoodIn wsX8_pass wsX8_in := goodIn_r _ [5] (by decide +kernel) (by decide +kernel)
set_option maxRecDepth 20000 in
theorem gX8_pass_X8_in : GoodIn wsX8_pass (va_wsS RX8 36 yX8_in wsX8_in) := goodIn_app (goodIn_of _ (by decide +kernel)) ggX8_pass_X8_in
set_option maxRecDepth 20000 in
theorem ggX8_pass_X8_changes : GoodIn wsX8_pass wsX8_changes := goodIn_r _ [9, 10, 11, 1, 59, 60, 61, 62, 63, 64, 65, 66, 67, 68, 69, 70, 71] (by decide +kernel) (by decide +kernel)
set_option maxRecDepth 20000 in
theorem gX8_pass_X8_changes : GoodIn wsX8_pass (wsV RX8 40 RX8 yX8_changes wsX8_changes) := goodIn_app (goodIn_of _ (by decide +kernel)) ggX8_pass_X8_changes
set_option maxRecDepth 20000 in
theorem ggX8_pass_X8_goes : GoodIn wsX8_pass wsX8_goes := goodIn_r _ [15, 16, 17, 18, 4, 19, 20, 21, 22, 23, 24, 25, 26, 27, 28, 29, 30, 31, 32, 33, 34, 35, 36, 37, 2, 3, 5, 38, 39, 40, 41, 42, 43, 44, 45, 46, 47, 48, 49, 50, 51, 52, 53, 54, 55, 56, 57, 58, 59, 60, 61, 62, 63, 64, 65, 66, 67, 68, 69, 70, 71] (by decide +kernel) (by decide +kernel)
set_option maxRecDepth 20000 in
theorem gX8_pass_X8_goes : GoodIn wsX8_pass (wsV RX8 141 RX8 yX8_goes wsX8_goes) := goodIn_app (goodIn_of _ (by decide +kernel)) ggX8_pass_X8_goes
theorem dX8_pass_0 : decode cX8_pass 0 = .ok (.iload_n 1, 1) := by decide +kernel
theorem dX8_pass_1 : decode cX8_pass 1 = .ok (.iconst 1, 1) := by decide +kernel
theorem dX8_pass_2 : decode cX8_pass 2 = .ok (.bipush 50, 2) := by decide +kernel
theorem dX8_pass_4 : decode cX8_pass 4 = .ok (.invokestatic 36, 3) := by decide +kernel
theorem dX8_pass_7 : decode cX8_pass 7 = .ok (.ifCond .ne 5, 3) := by decide +kernel
theorem dX8_pass_10 : decode cX8_pass 10 = .ok (.iconst (-1), 1) := by decide +kernel
theorem dX8_pass_11 : decode cX8_pass 11 = .ok (.ireturn, 1) := by decide +kernel
theorem dX8_pass_12 : decode cX8_pass 12 = .ok (.aload_n 0, 1) := by decide +kernel
theorem dX8_pass_13 : decode cX8_pass 13 = .ok (.getfield 7, 3) := by decide +kernel
theorem dX8_pass_16 : decode cX8_pass 16 = .ok (.iconst 3, 1) := by decide +kernel
theorem dX8_pass_17 : decode cX8_pass 17 = .ok (.iaload, 1) := by decide +kernel
theorem dX8_pass_18 : decode cX8_pass 18 = .ok (.iload_n 1, 1) := by decide +kernel
theorem dX8_pass_19 : decode cX8_pass 19 = .ok (.iadd, 1) := by decide +kernel
theorem dX8_pass_20 : decode cX8_pass 20 = .ok (.sipush 5000, 3) := by decide +kernel
theorem dX8_pass_23 : decode cX8_pass 23 = .ok (.if_icmp .le 6, 3) := by decide +kernel
theorem dX8_pass_26 : decode cX8_pass 26 = .ok (.bipush (-3), 2) := by decide +kernel
theorem dX8_pass_28 : decode cX8_pass 28 = .ok (.ireturn, 1) := by decide +kernel
theorem dX8_pass_29 : decode cX8_pass 29 = .ok (.aload_n 0, 1) := by decide +kernel
theorem dX8_pass_30 : decode cX8_pass 30 = .ok (.invokevirtual 40, 3) := by decide +kernel
theorem dX8_pass_33 : decode cX8_pass 33 = .ok (.iconst 0, 1) := by decide +kernel
theorem dX8_pass_34 : decode cX8_pass 34 = .ok (.istore_n 2, 1) := by decide +kernel
theorem dX8_pass_35 : decode cX8_pass 35 = .ok (.iload_n 2, 1) := by decide +kernel
theorem dX8_pass_36 : decode cX8_pass 36 = .ok (.iload_n 1, 1) := by decide +kernel
theorem dX8_pass_37 : decode cX8_pass 37 = .ok (.if_icmp .ge 17, 3) := by decide +kernel
theorem dX8_pass_40 : decode cX8_pass 40 = .ok (.aload_n 0, 1) := by decide +kernel
theorem dX8_pass_41 : decode cX8_pass 41 = .ok (.aload_n 0, 1) := by decide +kernel
theorem dX8_pass_42 : decode cX8_pass 42 = .ok (.getfield 7, 3) := by decide +kernel
theorem dX8_pass_45 : decode cX8_pass 45 = .ok (.invokevirtual 141, 3) := by decide +kernel
theorem dX8_pass_48 : decode cX8_pass 48 = .ok (.iinc 2 1, 3) := by decide +kernel
theorem dX8_pass_51 : decode cX8_pass 51 = .ok (.goto (-16), 3) := by decide +kernel
theorem dX8_pass_54 : decode cX8_pass 54 = .ok (.aload_n 0, 1) := by decide +kernel
theorem dX8_pass_55 : decode cX8_pass 55 = .ok (.getfield 7, 3) := by decide +kernel
theorem dX8_pass_58 : decode cX8_pass 58 = .ok (.iconst 3, 1) := by decide +kernel
theorem dX8_pass_59 : decode cX8_pass 59 = .ok (.iaload, 1) := by decide +kernel
theorem dX8_pass_60 : decode cX8_pass 60 = .ok (.ireturn, 1) := by decide +kernel
set_option maxRecDepth 20000 in
theorem ggX8_way_X8_isRoom : GoodIn wsX8_way wsX8_isRoom := goodIn_r _ [7, 2, 11, 12, 13, 14, 15, 16, 17, 18, 19, 20, 21, 22, 23] (by decide +kernel) (by decide +kernel)
set_option maxRecDepth 20000 in
theorem gX8_way_X8_isRoom : GoodIn wsX8_way (wsV RX8 54 RX8 yX8_isRoom wsX8_isRoom) := goodIn_app (goodIn_of _ (by decide +kernel)) ggX8_way_X8_isRoom
set_option maxRecDepth 20000 in
theorem ggX8_way_X8_ofDoor : GoodIn wsX8_way wsX8_ofDoor := goodIn_r _ [10] (by decide +kernel) (by decide +kernel)
set_option maxRecDepth 20000 in
theorem gX8_way_X8_ofDoor : GoodIn wsX8_way (va_wsS RX8 43 yX8_ofDoor wsX8_ofDoor) := goodIn_app (goodIn_of _ (by decide +kernel)) ggX8_way_X8_ofDoor
theorem dX8_way_0 : decode cX8_way 0 = .ok (.aload_n 0, 1) := by decide +kernel
theorem dX8_way_1 : decode cX8_way 1 = .ok (.iload_n 1, 1) := by decide +kernel
theorem dX8_way_2 : decode cX8_way 2 = .ok (.invokevirtual 54, 3) := by decide +kernel
theorem dX8_way_5 : decode cX8_way 5 = .ok (.ifCond .eq 17, 3) := by decide +kernel
theorem dX8_way_8 : decode cX8_way 8 = .ok (.aload_n 0, 1) := by decide +kernel
theorem dX8_way_9 : decode cX8_way 9 = .ok (.iload_n 2, 1) := by decide +kernel
theorem dX8_way_10 : decode cX8_way 10 = .ok (.invokevirtual 54, 3) := by decide +kernel
theorem dX8_way_13 : decode cX8_way 13 = .ok (.ifCond .ne 11, 3) := by decide +kernel
theorem dX8_way_16 : decode cX8_way 16 = .ok (.iload_n 2, 1) := by decide +kernel
theorem dX8_way_17 : decode cX8_way 17 = .ok (.bipush 8, 2) := by decide +kernel
theorem dX8_way_19 : decode cX8_way 19 = .ok (.if_icmp .eq 5, 3) := by decide +kernel
theorem dX8_way_22 : decode cX8_way 22 = .ok (.iconst (-1), 1) := by decide +kernel
theorem dX8_way_23 : decode cX8_way 23 = .ok (.ireturn, 1) := by decide +kernel
theorem dX8_way_24 : decode cX8_way 24 = .ok (.iconst 0, 1) := by decide +kernel
theorem dX8_way_25 : decode cX8_way 25 = .ok (.istore_n 3, 1) := by decide +kernel
theorem dX8_way_26 : decode cX8_way 26 = .ok (.iload_n 3, 1) := by decide +kernel
theorem dX8_way_27 : decode cX8_way 27 = .ok (.bipush 9, 2) := by decide +kernel
theorem dX8_way_29 : decode cX8_way 29 = .ok (.if_icmp .ge 26, 3) := by decide +kernel
theorem dX8_way_32 : decode cX8_way 32 = .ok (.aload_n 0, 1) := by decide +kernel
theorem dX8_way_33 : decode cX8_way 33 = .ok (.getfield 25, 3) := by decide +kernel
theorem dX8_way_36 : decode cX8_way 36 = .ok (.iload_n 3, 1) := by decide +kernel
theorem dX8_way_37 : decode cX8_way 37 = .ok (.iload_n 3, 1) := by decide +kernel
theorem dX8_way_38 : decode cX8_way 38 = .ok (.iload_n 1, 1) := by decide +kernel
theorem dX8_way_39 : decode cX8_way 39 = .ok (.if_icmp .ne 7, 3) := by decide +kernel
