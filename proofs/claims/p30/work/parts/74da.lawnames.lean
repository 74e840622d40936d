/-! THE LAW: instructions and calls (of claim/NAMES.whole.lean.txt) -/
theorem dL_acts_0 : decode cL_acts 0 = .ok (.iload 7, 2) := by decide +kernel
theorem dL_acts_2 : decode cL_acts 2 = .ok (.iconst 5, 1) := by decide +kernel
theorem dL_acts_3 : decode cL_acts 3 = .ok (.ishr, 1) := by decide +kernel
theorem dL_acts_4 : decode cL_acts 4 = .ok (.ldc 25, 2) := by decide +kernel
theorem dL_acts_6 : decode cL_acts 6 = .ok (.invokestatic 26, 3) := by decide +kernel
theorem dL_acts_9 : decode cL_acts 9 = .ok (.istore 8, 2) := by decide +kernel
theorem dL_acts_11 : decode cL_acts 11 = .ok (.iload 7, 2) := by decide +kernel
theorem dL_acts_13 : decode cL_acts 13 = .ok (.bipush 26, 2) := by decide +kernel
theorem dL_acts_15 : decode cL_acts 15 = .ok (.invokestatic 26, 3) := by decide +kernel
theorem dL_acts_18 : decode cL_acts 18 = .ok (.istore 9, 2) := by decide +kernel
theorem dL_acts_20 : decode cL_acts 20 = .ok (.iload 9, 2) := by decide +kernel
theorem dL_acts_22 : decode cL_acts 22 = .ok (.ifCond .eq 9, 3) := by decide +kernel
theorem dL_acts_25 : decode cL_acts 25 = .ok (.aload_n 1, 1) := by decide +kernel
theorem dL_acts_26 : decode cL_acts 26 = .ok (.iconst 0, 1) := by decide +kernel
theorem dL_acts_27 : decode cL_acts 27 = .ok (.iaload, 1) := by decide +kernel
theorem dL_acts_28 : decode cL_acts 28 = .ok (.ifCond .ne 183, 3) := by decide +kernel
theorem dL_acts_31 : decode cL_acts 31 = .ok (.aload_n 1, 1) := by decide +kernel
theorem dL_acts_32 : decode cL_acts 32 = .ok (.iconst 0, 1) := by decide +kernel
theorem dL_acts_33 : decode cL_acts 33 = .ok (.iaload, 1) := by decide +kernel
theorem dL_acts_34 : decode cL_acts 34 = .ok (.iconst 4, 1) := by decide +kernel
theorem dL_acts_35 : decode cL_acts 35 = .ok (.if_icmp .ne 33, 3) := by decide +kernel
theorem dL_acts_38 : decode cL_acts 38 = .ok (.aload_n 0, 1) := by decide +kernel
theorem dL_acts_39 : decode cL_acts 39 = .ok (.bipush 9, 2) := by decide +kernel
theorem dL_acts_41 : decode cL_acts 41 = .ok (.iconst 0, 1) := by decide +kernel
theorem dL_acts_42 : decode cL_acts 42 = .ok (.invokevirtual 30, 3) := by decide +kernel
theorem dL_acts_45 : decode cL_acts 45 = .ok (.iconst (-1), 1) := by decide +kernel
theorem dL_acts_46 : decode cL_acts 46 = .ok (.if_icmp .ne 20, 3) := by decide +kernel
theorem dL_acts_49 : decode cL_acts 49 = .ok (.aload_n 0, 1) := by decide +kernel
theorem dL_acts_50 : decode cL_acts 50 = .ok (.bipush 10, 2) := by decide +kernel
theorem dL_acts_52 : decode cL_acts 52 = .ok (.sipush 1001, 3) := by decide +kernel
theorem dL_acts_55 : decode cL_acts 55 = .ok (.invokevirtual 30, 3) := by decide +kernel
theorem dL_acts_58 : decode cL_acts 58 = .ok (.iconst (-1), 1) := by decide +kernel
theorem dL_acts_59 : decode cL_acts 59 = .ok (.if_icmp .ne 7, 3) := by decide +kernel
theorem dL_acts_62 : decode cL_acts 62 = .ok (.iconst 1, 1) := by decide +kernel
theorem dL_acts_63 : decode cL_acts 63 = .ok (.goto 4, 3) := by decide +kernel
theorem dL_acts_66 : decode cL_acts 66 = .ok (.iconst 0, 1) := by decide +kernel
theorem dL_acts_67 : decode cL_acts 67 = .ok (.ireturn, 1) := by decide +kernel
theorem dL_acts_68 : decode cL_acts 68 = .ok (.aload_n 1, 1) := by decide +kernel
theorem dL_acts_69 : decode cL_acts 69 = .ok (.iconst 0, 1) := by decide +kernel
theorem dL_acts_70 : decode cL_acts 70 = .ok (.iaload, 1) := by decide +kernel
theorem dL_acts_71 : decode cL_acts 71 = .ok (.istore 10, 2) := by decide +kernel
theorem dL_acts_73 : decode cL_acts 73 = .ok (.aload_n 2, 1) := by decide +kernel
theorem dL_acts_74 : decode cL_acts 74 = .ok (.bipush 6, 2) := by decide +kernel
theorem dL_acts_76 : decode cL_acts 76 = .ok (.iload 10, 2) := by decide +kernel
theorem dL_acts_78 : decode cL_acts 78 = .ok (.imul, 1) := by decide +kernel
theorem dL_acts_79 : decode cL_acts 79 = .ok (.bipush 10, 2) := by decide +kernel
theorem dL_acts_81 : decode cL_acts 81 = .ok (.iload 8, 2) := by decide +kernel
theorem dL_acts_83 : decode cL_acts 83 = .ok (.iload 8, 2) := by decide +kernel
theorem dL_acts_85 : decode cL_acts 85 = .ok (.iconst 2, 1) := by decide +kernel
theorem dL_acts_86 : decode cL_acts 86 = .ok (.irem, 1) := by decide +kernel
theorem dL_acts_87 : decode cL_acts 87 = .ok (.ifCond .ne 9, 3) := by decide +kernel
theorem dL_acts_90 : decode cL_acts 90 = .ok (.sipush 9991, 3) := by decide +kernel
theorem dL_acts_93 : decode cL_acts 93 = .ok (.goto 5, 3) := by decide +kernel
theorem dL_acts_96 : decode cL_acts 96 = .ok (.bipush 90, 2) := by decide +kernel
theorem dL_acts_98 : decode cL_acts 98 = .ok (.irem, 1) := by decide +kernel
theorem dL_acts_99 : decode cL_acts 99 = .ok (.iadd, 1) := by decide +kernel
theorem dL_acts_100 : decode cL_acts 100 = .ok (.iastore, 1) := by decide +kernel
theorem dL_acts_101 : decode cL_acts 101 = .ok (.aload_n 2, 1) := by decide +kernel
theorem dL_acts_102 : decode cL_acts 102 = .ok (.bipush 6, 2) := by decide +kernel
theorem dL_acts_104 : decode cL_acts 104 = .ok (.iload 10, 2) := by decide +kernel
theorem dL_acts_106 : decode cL_acts 106 = .ok (.imul, 1) := by decide +kernel
theorem dL_acts_107 : decode cL_acts 107 = .ok (.iconst 1, 1) := by decide +kernel
theorem dL_acts_108 : decode cL_acts 108 = .ok (.iadd, 1) := by decide +kernel
theorem dL_acts_109 : decode cL_acts 109 = .ok (.iload 8, 2) := by decide +kernel
theorem dL_acts_111 : decode cL_acts 111 = .ok (.bipush 7, 2) := by decide +kernel
theorem dL_acts_113 : decode cL_acts 113 = .ok (.idiv, 1) := by decide +kernel
theorem dL_acts_114 : decode cL_acts 114 = .ok (.iload 8, 2) := by decide +kernel
theorem dL_acts_116 : decode cL_acts 116 = .ok (.iconst 3, 1) := by decide +kernel
theorem dL_acts_117 : decode cL_acts 117 = .ok (.irem, 1) := by decide +kernel
theorem dL_acts_118 : decode cL_acts 118 = .ok (.ifCond .ne 9, 3) := by decide +kernel
theorem dL_acts_121 : decode cL_acts 121 = .ok (.sipush 1001, 3) := by decide +kernel
theorem dL_acts_124 : decode cL_acts 124 = .ok (.goto 5, 3) := by decide +kernel
theorem dL_acts_127 : decode cL_acts 127 = .ok (.bipush 60, 2) := by decide +kernel
theorem dL_acts_129 : decode cL_acts 129 = .ok (.irem, 1) := by decide +kernel
theorem dL_acts_130 : decode cL_acts 130 = .ok (.iastore, 1) := by decide +kernel
theorem dL_acts_131 : decode cL_acts 131 = .ok (.aload_n 2, 1) := by decide +kernel
theorem dL_acts_132 : decode cL_acts 132 = .ok (.bipush 6, 2) := by decide +kernel
theorem dL_acts_134 : decode cL_acts 134 = .ok (.iload 10, 2) := by decide +kernel
theorem dL_acts_136 : decode cL_acts 136 = .ok (.imul, 1) := by decide +kernel
theorem dL_acts_137 : decode cL_acts 137 = .ok (.iconst 2, 1) := by decide +kernel
theorem dL_acts_138 : decode cL_acts 138 = .ok (.iadd, 1) := by decide +kernel
theorem dL_acts_139 : decode cL_acts 139 = .ok (.iconst 0, 1) := by decide +kernel
theorem dL_acts_140 : decode cL_acts 140 = .ok (.iastore, 1) := by decide +kernel
theorem dL_acts_141 : decode cL_acts 141 = .ok (.aload_n 2, 1) := by decide +kernel
theorem dL_acts_142 : decode cL_acts 142 = .ok (.bipush 6, 2) := by decide +kernel
theorem dL_acts_144 : decode cL_acts 144 = .ok (.iload 10, 2) := by decide +kernel
theorem dL_acts_146 : decode cL_acts 146 = .ok (.imul, 1) := by decide +kernel
theorem dL_acts_147 : decode cL_acts 147 = .ok (.iconst 3, 1) := by decide +kernel
theorem dL_acts_148 : decode cL_acts 148 = .ok (.iadd, 1) := by decide +kernel
theorem dL_acts_149 : decode cL_acts 149 = .ok (.iconst 0, 1) := by decide +kernel
theorem dL_acts_150 : decode cL_acts 150 = .ok (.iastore, 1) := by decide +kernel
theorem dL_acts_151 : decode cL_acts 151 = .ok (.aload_n 2, 1) := by decide +kernel
theorem dL_acts_152 : decode cL_acts 152 = .ok (.bipush 6, 2) := by decide +kernel
theorem dL_acts_154 : decode cL_acts 154 = .ok (.iload 10, 2) := by decide +kernel
theorem dL_acts_156 : decode cL_acts 156 = .ok (.imul, 1) := by decide +kernel
theorem dL_acts_157 : decode cL_acts 157 = .ok (.iconst 4, 1) := by decide +kernel
theorem dL_acts_158 : decode cL_acts 158 = .ok (.iadd, 1) := by decide +kernel
theorem dL_acts_159 : decode cL_acts 159 = .ok (.iconst 0, 1) := by decide +kernel
theorem dL_acts_160 : decode cL_acts 160 = .ok (.iastore, 1) := by decide +kernel
theorem dL_acts_161 : decode cL_acts 161 = .ok (.aload_n 2, 1) := by decide +kernel
theorem dL_acts_162 : decode cL_acts 162 = .ok (.bipush 6, 2) := by decide +kernel
theorem dL_acts_164 : decode cL_acts 164 = .ok (.iload 10, 2) := by decide +kernel
theorem dL_acts_166 : decode cL_acts 166 = .ok (.imul, 1) := by decide +kernel
theorem dL_acts_167 : decode cL_acts 167 = .ok (.iconst 5, 1) := by decide +kernel
theorem dL_acts_168 : decode cL_acts 168 = .ok (.iadd, 1) := by decide +kernel
theorem dL_acts_169 : decode cL_acts 169 = .ok (.aload_n 1, 1) := by decide +kernel
theorem dL_acts_170 : decode cL_acts 170 = .ok (.iconst 3, 1) := by decide +kernel
theorem dL_acts_171 : decode cL_acts 171 = .ok (.iaload, 1) := by decide +kernel
theorem dL_acts_172 : decode cL_acts 172 = .ok (.iastore, 1) := by decide +kernel
theorem dL_acts_173 : decode cL_acts 173 = .ok (.aload_n 1, 1) := by decide +kernel
theorem dL_acts_174 : decode cL_acts 174 = .ok (.iconst 0, 1) := by decide +kernel
theorem dL_acts_175 : decode cL_acts 175 = .ok (.dup2, 1) := by decide +kernel
theorem dL_acts_176 : decode cL_acts 176 = .ok (.iaload, 1) := by decide +kernel
theorem dL_acts_177 : decode cL_acts 177 = .ok (.iconst 1, 1) := by decide +kernel
theorem dL_acts_178 : decode cL_acts 178 = .ok (.iadd, 1) := by decide +kernel
theorem dL_acts_179 : decode cL_acts 179 = .ok (.iastore, 1) := by decide +kernel
theorem dL_acts_180 : decode cL_acts 180 = .ok (.aload_n 0, 1) := by decide +kernel
theorem dL_acts_181 : decode cL_acts 181 = .ok (.aload_n 2, 1) := by decide +kernel
theorem dL_acts_182 : decode cL_acts 182 = .ok (.bipush 6, 2) := by decide +kernel
theorem dL_acts_184 : decode cL_acts 184 = .ok (.iload 10, 2) := by decide +kernel
theorem dL_acts_186 : decode cL_acts 186 = .ok (.imul, 1) := by decide +kernel
theorem dL_acts_187 : decode cL_acts 187 = .ok (.iaload, 1) := by decide +kernel
theorem dL_acts_188 : decode cL_acts 188 = .ok (.aload_n 2, 1) := by decide +kernel
theorem dL_acts_189 : decode cL_acts 189 = .ok (.bipush 6, 2) := by decide +kernel
theorem dL_acts_191 : decode cL_acts 191 = .ok (.iload 10, 2) := by decide +kernel
theorem dL_acts_193 : decode cL_acts 193 = .ok (.imul, 1) := by decide +kernel
theorem dL_acts_194 : decode cL_acts 194 = .ok (.iconst 1, 1) := by decide +kernel
theorem dL_acts_195 : decode cL_acts 195 = .ok (.iadd, 1) := by decide +kernel
theorem dL_acts_196 : decode cL_acts 196 = .ok (.iaload, 1) := by decide +kernel
theorem dL_acts_197 : decode cL_acts 197 = .ok (.invokevirtual 30, 3) := by decide +kernel
theorem dL_acts_200 : decode cL_acts 200 = .ok (.iload 10, 2) := by decide +kernel
theorem dL_acts_202 : decode cL_acts 202 = .ok (.if_icmp .ne 7, 3) := by decide +kernel
theorem dL_acts_205 : decode cL_acts 205 = .ok (.iconst 1, 1) := by decide +kernel
theorem dL_acts_206 : decode cL_acts 206 = .ok (.goto 4, 3) := by decide +kernel
theorem dL_acts_209 : decode cL_acts 209 = .ok (.iconst 0, 1) := by decide +kernel
theorem dL_acts_210 : decode cL_acts 210 = .ok (.ireturn, 1) := by decide +kernel
theorem dL_acts_211 : decode cL_acts 211 = .ok (.iload 8, 2) := by decide +kernel
theorem dL_acts_213 : decode cL_acts 213 = .ok (.aload_n 1, 1) := by decide +kernel
theorem dL_acts_214 : decode cL_acts 214 = .ok (.iconst 0, 1) := by decide +kernel
theorem dL_acts_215 : decode cL_acts 215 = .ok (.iaload, 1) := by decide +kernel
theorem dL_acts_216 : decode cL_acts 216 = .ok (.irem, 1) := by decide +kernel
theorem dL_acts_217 : decode cL_acts 217 = .ok (.istore 10, 2) := by decide +kernel
theorem dL_acts_219 : decode cL_acts 219 = .ok (.iload 9, 2) := by decide +kernel
theorem dL_acts_221 : decode cL_acts 221 = .ok (.iconst 3, 1) := by decide +kernel
theorem dL_acts_222 : decode cL_acts 222 = .ok (.if_icmp .ge 443, 3) := by decide +kernel
theorem dL_acts_225 : decode cL_acts 225 = .ok (.iload 8, 2) := by decide +kernel
theorem dL_acts_227 : decode cL_acts 227 = .ok (.iconst 4, 1) := by decide +kernel
theorem dL_acts_228 : decode cL_acts 228 = .ok (.idiv, 1) := by decide +kernel
theorem dL_acts_229 : decode cL_acts 229 = .ok (.aload_n 1, 1) := by decide +kernel
theorem dL_acts_230 : decode cL_acts 230 = .ok (.iconst 0, 1) := by decide +kernel
