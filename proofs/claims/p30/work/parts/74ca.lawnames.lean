/-! THE LAW: instructions and calls (of claim/NAMES.whole.lean.txt) -/
theorem dL_step_0 : decode cL_step 0 = .ok (.bipush 63, 2) := by decide +kernel
theorem dL_step_2 : decode cL_step 2 = .ok (.istore 6, 2) := by decide +kernel
theorem dL_step_4 : decode cL_step 4 = .ok (.iload 6, 2) := by decide +kernel
theorem dL_step_6 : decode cL_step 6 = .ok (.ifCond .lt 59, 3) := by decide +kernel
theorem dL_step_9 : decode cL_step 9 = .ok (.aload 5, 2) := by decide +kernel
theorem dL_step_11 : decode cL_step 11 = .ok (.iload 6, 2) := by decide +kernel
theorem dL_step_13 : decode cL_step 13 = .ok (.iload 6, 2) := by decide +kernel
theorem dL_step_15 : decode cL_step 15 = .ok (.bipush 16, 2) := by decide +kernel
theorem dL_step_17 : decode cL_step 17 = .ok (.irem, 1) := by decide +kernel
theorem dL_step_18 : decode cL_step 18 = .ok (.ifCond .le 13, 3) := by decide +kernel
theorem dL_step_21 : decode cL_step 21 = .ok (.aload 5, 2) := by decide +kernel
theorem dL_step_23 : decode cL_step 23 = .ok (.iload 6, 2) := by decide +kernel
theorem dL_step_25 : decode cL_step 25 = .ok (.iconst 1, 1) := by decide +kernel
theorem dL_step_26 : decode cL_step 26 = .ok (.isub, 1) := by decide +kernel
theorem dL_step_27 : decode cL_step 27 = .ok (.iaload, 1) := by decide +kernel
theorem dL_step_28 : decode cL_step 28 = .ok (.goto 30, 3) := by decide +kernel
theorem dL_step_31 : decode cL_step 31 = .ok (.iload 6, 2) := by decide +kernel
theorem dL_step_33 : decode cL_step 33 = .ok (.bipush 16, 2) := by decide +kernel
theorem dL_step_35 : decode cL_step 35 = .ok (.idiv, 1) := by decide +kernel
theorem dL_step_36 : decode cL_step 36 = .ok (.aload_n 0, 1) := by decide +kernel
theorem dL_step_37 : decode cL_step 37 = .ok (.iconst 0, 1) := by decide +kernel
theorem dL_step_38 : decode cL_step 38 = .ok (.iaload, 1) := by decide +kernel
theorem dL_step_39 : decode cL_step 39 = .ok (.if_icmp .ge 18, 3) := by decide +kernel
theorem dL_step_42 : decode cL_step 42 = .ok (.aload_n 1, 1) := by decide +kernel
theorem dL_step_43 : decode cL_step 43 = .ok (.bipush 6, 2) := by decide +kernel
theorem dL_step_45 : decode cL_step 45 = .ok (.iload 6, 2) := by decide +kernel
theorem dL_step_47 : decode cL_step 47 = .ok (.bipush 16, 2) := by decide +kernel
theorem dL_step_49 : decode cL_step 49 = .ok (.idiv, 1) := by decide +kernel
theorem dL_step_50 : decode cL_step 50 = .ok (.imul, 1) := by decide +kernel
theorem dL_step_51 : decode cL_step 51 = .ok (.iconst 2, 1) := by decide +kernel
theorem dL_step_52 : decode cL_step 52 = .ok (.iadd, 1) := by decide +kernel
theorem dL_step_53 : decode cL_step 53 = .ok (.iaload, 1) := by decide +kernel
theorem dL_step_54 : decode cL_step 54 = .ok (.goto 4, 3) := by decide +kernel
theorem dL_step_57 : decode cL_step 57 = .ok (.iconst 0, 1) := by decide +kernel
theorem dL_step_58 : decode cL_step 58 = .ok (.iastore, 1) := by decide +kernel
theorem dL_step_59 : decode cL_step 59 = .ok (.iinc 6 (-1), 3) := by decide +kernel
theorem dL_step_62 : decode cL_step 62 = .ok (.goto (-58), 3) := by decide +kernel
theorem dL_step_65 : decode cL_step 65 = .ok (.iconst 0, 1) := by decide +kernel
theorem dL_step_66 : decode cL_step 66 = .ok (.istore 6, 2) := by decide +kernel
theorem dL_step_68 : decode cL_step 68 = .ok (.iload 6, 2) := by decide +kernel
theorem dL_step_70 : decode cL_step 70 = .ok (.aload_n 0, 1) := by decide +kernel
theorem dL_step_71 : decode cL_step 71 = .ok (.iconst 2, 1) := by decide +kernel
theorem dL_step_72 : decode cL_step 72 = .ok (.iaload, 1) := by decide +kernel
theorem dL_step_73 : decode cL_step 73 = .ok (.if_icmp .ge 75, 3) := by decide +kernel
theorem dL_step_76 : decode cL_step 76 = .ok (.bipush 10, 2) := by decide +kernel
theorem dL_step_78 : decode cL_step 78 = .ok (.aload 4, 2) := by decide +kernel
theorem dL_step_80 : decode cL_step 80 = .ok (.iconst 5, 1) := by decide +kernel
theorem dL_step_81 : decode cL_step 81 = .ok (.iload 6, 2) := by decide +kernel
theorem dL_step_83 : decode cL_step 83 = .ok (.imul, 1) := by decide +kernel
theorem dL_step_84 : decode cL_step 84 = .ok (.iconst 2, 1) := by decide +kernel
theorem dL_step_85 : decode cL_step 85 = .ok (.iadd, 1) := by decide +kernel
theorem dL_step_86 : decode cL_step 86 = .ok (.iaload, 1) := by decide +kernel
theorem dL_step_87 : decode cL_step 87 = .ok (.imul, 1) := by decide +kernel
theorem dL_step_88 : decode cL_step 88 = .ok (.istore 7, 2) := by decide +kernel
theorem dL_step_90 : decode cL_step 90 = .ok (.aload 4, 2) := by decide +kernel
theorem dL_step_92 : decode cL_step 92 = .ok (.iconst 5, 1) := by decide +kernel
theorem dL_step_93 : decode cL_step 93 = .ok (.iload 6, 2) := by decide +kernel
theorem dL_step_95 : decode cL_step 95 = .ok (.imul, 1) := by decide +kernel
theorem dL_step_96 : decode cL_step 96 = .ok (.iconst 1, 1) := by decide +kernel
theorem dL_step_97 : decode cL_step 97 = .ok (.iadd, 1) := by decide +kernel
theorem dL_step_98 : decode cL_step 98 = .ok (.iaload, 1) := by decide +kernel
theorem dL_step_99 : decode cL_step 99 = .ok (.iconst 1, 1) := by decide +kernel
theorem dL_step_100 : decode cL_step 100 = .ok (.if_icmp .ne 42, 3) := by decide +kernel
theorem dL_step_103 : decode cL_step 103 = .ok (.aload 4, 2) := by decide +kernel
theorem dL_step_105 : decode cL_step 105 = .ok (.iconst 5, 1) := by decide +kernel
theorem dL_step_106 : decode cL_step 106 = .ok (.iload 6, 2) := by decide +kernel
theorem dL_step_108 : decode cL_step 108 = .ok (.imul, 1) := by decide +kernel
theorem dL_step_109 : decode cL_step 109 = .ok (.iaload, 1) := by decide +kernel
theorem dL_step_110 : decode cL_step 110 = .ok (.aload_n 0, 1) := by decide +kernel
theorem dL_step_111 : decode cL_step 111 = .ok (.iconst 3, 1) := by decide +kernel
theorem dL_step_112 : decode cL_step 112 = .ok (.iaload, 1) := by decide +kernel
theorem dL_step_113 : decode cL_step 113 = .ok (.if_icmp .ne 29, 3) := by decide +kernel
theorem dL_step_116 : decode cL_step 116 = .ok (.aload_n 2, 1) := by decide +kernel
theorem dL_step_117 : decode cL_step 117 = .ok (.iload 7, 2) := by decide +kernel
theorem dL_step_119 : decode cL_step 119 = .ok (.bipush 7, 2) := by decide +kernel
theorem dL_step_121 : decode cL_step 121 = .ok (.iadd, 1) := by decide +kernel
theorem dL_step_122 : decode cL_step 122 = .ok (.iaload, 1) := by decide +kernel
theorem dL_step_123 : decode cL_step 123 = .ok (.ifCond .ne 19, 3) := by decide +kernel
theorem dL_step_126 : decode cL_step 126 = .ok (.aload_n 2, 1) := by decide +kernel
theorem dL_step_127 : decode cL_step 127 = .ok (.iload 7, 2) := by decide +kernel
theorem dL_step_129 : decode cL_step 129 = .ok (.bipush 6, 2) := by decide +kernel
theorem dL_step_131 : decode cL_step 131 = .ok (.iadd, 1) := by decide +kernel
theorem dL_step_132 : decode cL_step 132 = .ok (.aload 4, 2) := by decide +kernel
theorem dL_step_134 : decode cL_step 134 = .ok (.iconst 5, 1) := by decide +kernel
theorem dL_step_135 : decode cL_step 135 = .ok (.iload 6, 2) := by decide +kernel
theorem dL_step_137 : decode cL_step 137 = .ok (.imul, 1) := by decide +kernel
theorem dL_step_138 : decode cL_step 138 = .ok (.iconst 4, 1) := by decide +kernel
theorem dL_step_139 : decode cL_step 139 = .ok (.iadd, 1) := by decide +kernel
theorem dL_step_140 : decode cL_step 140 = .ok (.iaload, 1) := by decide +kernel
theorem dL_step_141 : decode cL_step 141 = .ok (.iastore, 1) := by decide +kernel
theorem dL_step_142 : decode cL_step 142 = .ok (.iinc 6 1, 3) := by decide +kernel
theorem dL_step_145 : decode cL_step 145 = .ok (.goto (-77), 3) := by decide +kernel
theorem dL_step_148 : decode cL_step 148 = .ok (.iconst 0, 1) := by decide +kernel
theorem dL_step_149 : decode cL_step 149 = .ok (.istore 6, 2) := by decide +kernel
theorem dL_step_151 : decode cL_step 151 = .ok (.iload 6, 2) := by decide +kernel
theorem dL_step_153 : decode cL_step 153 = .ok (.aload_n 0, 1) := by decide +kernel
theorem dL_step_154 : decode cL_step 154 = .ok (.iconst 1, 1) := by decide +kernel
theorem dL_step_155 : decode cL_step 155 = .ok (.iaload, 1) := by decide +kernel
theorem dL_step_156 : decode cL_step 156 = .ok (.if_icmp .ge 162, 3) := by decide +kernel
theorem dL_step_159 : decode cL_step 159 = .ok (.aload_n 2, 1) := by decide +kernel
theorem dL_step_160 : decode cL_step 160 = .ok (.bipush 10, 2) := by decide +kernel
theorem dL_step_162 : decode cL_step 162 = .ok (.iload 6, 2) := by decide +kernel
theorem dL_step_164 : decode cL_step 164 = .ok (.imul, 1) := by decide +kernel
theorem dL_step_165 : decode cL_step 165 = .ok (.iconst 5, 1) := by decide +kernel
theorem dL_step_166 : decode cL_step 166 = .ok (.iadd, 1) := by decide +kernel
theorem dL_step_167 : decode cL_step 167 = .ok (.iaload, 1) := by decide +kernel
theorem dL_step_168 : decode cL_step 168 = .ok (.istore 7, 2) := by decide +kernel
theorem dL_step_170 : decode cL_step 170 = .ok (.aload_n 2, 1) := by decide +kernel
theorem dL_step_171 : decode cL_step 171 = .ok (.bipush 10, 2) := by decide +kernel
theorem dL_step_173 : decode cL_step 173 = .ok (.iload 6, 2) := by decide +kernel
theorem dL_step_175 : decode cL_step 175 = .ok (.imul, 1) := by decide +kernel
theorem dL_step_176 : decode cL_step 176 = .ok (.bipush 6, 2) := by decide +kernel
theorem dL_step_178 : decode cL_step 178 = .ok (.iadd, 1) := by decide +kernel
theorem dL_step_179 : decode cL_step 179 = .ok (.iaload, 1) := by decide +kernel
theorem dL_step_180 : decode cL_step 180 = .ok (.istore 8, 2) := by decide +kernel
theorem dL_step_182 : decode cL_step 182 = .ok (.aload_n 2, 1) := by decide +kernel
theorem dL_step_183 : decode cL_step 183 = .ok (.bipush 10, 2) := by decide +kernel
theorem dL_step_185 : decode cL_step 185 = .ok (.iload 6, 2) := by decide +kernel
theorem dL_step_187 : decode cL_step 187 = .ok (.imul, 1) := by decide +kernel
theorem dL_step_188 : decode cL_step 188 = .ok (.iconst 3, 1) := by decide +kernel
theorem dL_step_189 : decode cL_step 189 = .ok (.iadd, 1) := by decide +kernel
theorem dL_step_190 : decode cL_step 190 = .ok (.iaload, 1) := by decide +kernel
theorem dL_step_191 : decode cL_step 191 = .ok (.istore 9, 2) := by decide +kernel
theorem dL_step_193 : decode cL_step 193 = .ok (.aload_n 2, 1) := by decide +kernel
theorem dL_step_194 : decode cL_step 194 = .ok (.bipush 10, 2) := by decide +kernel
theorem dL_step_196 : decode cL_step 196 = .ok (.iload 6, 2) := by decide +kernel
theorem dL_step_198 : decode cL_step 198 = .ok (.imul, 1) := by decide +kernel
theorem dL_step_199 : decode cL_step 199 = .ok (.iconst 5, 1) := by decide +kernel
theorem dL_step_200 : decode cL_step 200 = .ok (.iadd, 1) := by decide +kernel
theorem dL_step_201 : decode cL_step 201 = .ok (.iload 8, 2) := by decide +kernel
theorem dL_step_203 : decode cL_step 203 = .ok (.iload 7, 2) := by decide +kernel
theorem dL_step_205 : decode cL_step 205 = .ok (.iload 9, 2) := by decide +kernel
theorem dL_step_207 : decode cL_step 207 = .ok (.iadd, 1) := by decide +kernel
theorem dL_step_208 : decode cL_step 208 = .ok (.if_icmp .le 11, 3) := by decide +kernel
theorem dL_step_211 : decode cL_step 211 = .ok (.iload 7, 2) := by decide +kernel
theorem dL_step_213 : decode cL_step 213 = .ok (.iload 9, 2) := by decide +kernel
theorem dL_step_215 : decode cL_step 215 = .ok (.iadd, 1) := by decide +kernel
theorem dL_step_216 : decode cL_step 216 = .ok (.goto 23, 3) := by decide +kernel
theorem dL_step_219 : decode cL_step 219 = .ok (.iload 8, 2) := by decide +kernel
theorem dL_step_221 : decode cL_step 221 = .ok (.iload 7, 2) := by decide +kernel
theorem dL_step_223 : decode cL_step 223 = .ok (.iload 9, 2) := by decide +kernel
theorem dL_step_225 : decode cL_step 225 = .ok (.isub, 1) := by decide +kernel
theorem dL_step_226 : decode cL_step 226 = .ok (.if_icmp .ge 11, 3) := by decide +kernel
theorem dL_step_229 : decode cL_step 229 = .ok (.iload 7, 2) := by decide +kernel
theorem dL_step_231 : decode cL_step 231 = .ok (.iload 9, 2) := by decide +kernel
theorem dL_step_233 : decode cL_step 233 = .ok (.isub, 1) := by decide +kernel
theorem dL_step_234 : decode cL_step 234 = .ok (.goto 5, 3) := by decide +kernel
theorem dL_step_237 : decode cL_step 237 = .ok (.iload 8, 2) := by decide +kernel
theorem dL_step_239 : decode cL_step 239 = .ok (.iastore, 1) := by decide +kernel
theorem dL_step_240 : decode cL_step 240 = .ok (.aload_n 0, 1) := by decide +kernel
