theorem dX8_way_42 : decode cX8_way 42 = .ok (.iconst 0, 1) := by decide +kernel
theorem dX8_way_43 : decode cX8_way 43 = .ok (.goto 5, 3) := by decide +kernel
theorem dX8_way_46 : decode cX8_way 46 = .ok (.bipush 99, 2) := by decide +kernel
theorem dX8_way_48 : decode cX8_way 48 = .ok (.iastore, 1) := by decide +kernel
theorem dX8_way_49 : decode cX8_way 49 = .ok (.iinc 3 1, 3) := by decide +kernel
theorem dX8_way_52 : decode cX8_way 52 = .ok (.goto (-26), 3) := by decide +kernel
theorem dX8_way_55 : decode cX8_way 55 = .ok (.iconst 0, 1) := by decide +kernel
theorem dX8_way_56 : decode cX8_way 56 = .ok (.istore_n 3, 1) := by decide +kernel
theorem dX8_way_57 : decode cX8_way 57 = .ok (.iload_n 3, 1) := by decide +kernel
theorem dX8_way_58 : decode cX8_way 58 = .ok (.bipush 9, 2) := by decide +kernel
theorem dX8_way_60 : decode cX8_way 60 = .ok (.aload_n 0, 1) := by decide +kernel
theorem dX8_way_61 : decode cX8_way 61 = .ok (.getfield 7, 3) := by decide +kernel
theorem dX8_way_64 : decode cX8_way 64 = .ok (.iconst 1, 1) := by decide +kernel
theorem dX8_way_65 : decode cX8_way 65 = .ok (.iaload, 1) := by decide +kernel
theorem dX8_way_66 : decode cX8_way 66 = .ok (.imul, 1) := by decide +kernel
theorem dX8_way_67 : decode cX8_way 67 = .ok (.if_icmp .ge 153, 3) := by decide +kernel
theorem dX8_way_70 : decode cX8_way 70 = .ok (.iload_n 3, 1) := by decide +kernel
theorem dX8_way_71 : decode cX8_way 71 = .ok (.aload_n 0, 1) := by decide +kernel
theorem dX8_way_72 : decode cX8_way 72 = .ok (.getfield 7, 3) := by decide +kernel
theorem dX8_way_75 : decode cX8_way 75 = .ok (.iconst 1, 1) := by decide +kernel
theorem dX8_way_76 : decode cX8_way 76 = .ok (.iaload, 1) := by decide +kernel
theorem dX8_way_77 : decode cX8_way 77 = .ok (.irem, 1) := by decide +kernel
theorem dX8_way_78 : decode cX8_way 78 = .ok (.istore 4, 2) := by decide +kernel
theorem dX8_way_80 : decode cX8_way 80 = .ok (.aload_n 0, 1) := by decide +kernel
theorem dX8_way_81 : decode cX8_way 81 = .ok (.getfield 7, 3) := by decide +kernel
theorem dX8_way_84 : decode cX8_way 84 = .ok (.iload 4, 2) := by decide +kernel
theorem dX8_way_86 : decode cX8_way 86 = .ok (.iconst 0, 1) := by decide +kernel
theorem dX8_way_87 : decode cX8_way 87 = .ok (.invokestatic 43, 3) := by decide +kernel
theorem dX8_way_90 : decode cX8_way 90 = .ok (.istore 5, 2) := by decide +kernel
theorem dX8_way_92 : decode cX8_way 92 = .ok (.aload_n 0, 1) := by decide +kernel
theorem dX8_way_93 : decode cX8_way 93 = .ok (.getfield 7, 3) := by decide +kernel
theorem dX8_way_96 : decode cX8_way 96 = .ok (.iload 4, 2) := by decide +kernel
theorem dX8_way_98 : decode cX8_way 98 = .ok (.iconst 1, 1) := by decide +kernel
theorem dX8_way_99 : decode cX8_way 99 = .ok (.invokestatic 43, 3) := by decide +kernel
theorem dX8_way_102 : decode cX8_way 102 = .ok (.istore 6, 2) := by decide +kernel
theorem dX8_way_104 : decode cX8_way 104 = .ok (.aload_n 0, 1) := by decide +kernel
theorem dX8_way_105 : decode cX8_way 105 = .ok (.getfield 7, 3) := by decide +kernel
theorem dX8_way_108 : decode cX8_way 108 = .ok (.iload 4, 2) := by decide +kernel
theorem dX8_way_110 : decode cX8_way 110 = .ok (.iconst 5, 1) := by decide +kernel
theorem dX8_way_111 : decode cX8_way 111 = .ok (.invokestatic 43, 3) := by decide +kernel
theorem dX8_way_114 : decode cX8_way 114 = .ok (.ifCond .le 100, 3) := by decide +kernel
theorem dX8_way_117 : decode cX8_way 117 = .ok (.aload_n 0, 1) := by decide +kernel
theorem dX8_way_118 : decode cX8_way 118 = .ok (.getfield 25, 3) := by decide +kernel
theorem dX8_way_121 : decode cX8_way 121 = .ok (.iload 5, 2) := by decide +kernel
theorem dX8_way_123 : decode cX8_way 123 = .ok (.iload 6, 2) := by decide +kernel
theorem dX8_way_125 : decode cX8_way 125 = .ok (.bipush 8, 2) := by decide +kernel
theorem dX8_way_127 : decode cX8_way 127 = .ok (.if_icmp .eq 34, 3) := by decide +kernel
theorem dX8_way_130 : decode cX8_way 130 = .ok (.aload_n 0, 1) := by decide +kernel
theorem dX8_way_131 : decode cX8_way 131 = .ok (.getfield 25, 3) := by decide +kernel
theorem dX8_way_134 : decode cX8_way 134 = .ok (.iload 6, 2) := by decide +kernel
theorem dX8_way_136 : decode cX8_way 136 = .ok (.iaload, 1) := by decide +kernel
theorem dX8_way_137 : decode cX8_way 137 = .ok (.iconst 1, 1) := by decide +kernel
theorem dX8_way_138 : decode cX8_way 138 = .ok (.iadd, 1) := by decide +kernel
theorem dX8_way_139 : decode cX8_way 139 = .ok (.aload_n 0, 1) := by decide +kernel
theorem dX8_way_140 : decode cX8_way 140 = .ok (.getfield 25, 3) := by decide +kernel
theorem dX8_way_143 : decode cX8_way 143 = .ok (.iload 5, 2) := by decide +kernel
theorem dX8_way_145 : decode cX8_way 145 = .ok (.iaload, 1) := by decide +kernel
theorem dX8_way_146 : decode cX8_way 146 = .ok (.if_icmp .ge 15, 3) := by decide +kernel
theorem dX8_way_149 : decode cX8_way 149 = .ok (.aload_n 0, 1) := by decide +kernel
theorem dX8_way_150 : decode cX8_way 150 = .ok (.getfield 25, 3) := by decide +kernel
theorem dX8_way_153 : decode cX8_way 153 = .ok (.iload 6, 2) := by decide +kernel
theorem dX8_way_155 : decode cX8_way 155 = .ok (.iaload, 1) := by decide +kernel
theorem dX8_way_156 : decode cX8_way 156 = .ok (.iconst 1, 1) := by decide +kernel
theorem dX8_way_157 : decode cX8_way 157 = .ok (.iadd, 1) := by decide +kernel
theorem dX8_way_158 : decode cX8_way 158 = .ok (.goto 10, 3) := by decide +kernel
theorem dX8_way_161 : decode cX8_way 161 = .ok (.aload_n 0, 1) := by decide +kernel
theorem dX8_way_162 : decode cX8_way 162 = .ok (.getfield 25, 3) := by decide +kernel
theorem dX8_way_165 : decode cX8_way 165 = .ok (.iload 5, 2) := by decide +kernel
theorem dX8_way_167 : decode cX8_way 167 = .ok (.iaload, 1) := by decide +kernel
theorem dX8_way_168 : decode cX8_way 168 = .ok (.iastore, 1) := by decide +kernel
theorem dX8_way_169 : decode cX8_way 169 = .ok (.aload_n 0, 1) := by decide +kernel
theorem dX8_way_170 : decode cX8_way 170 = .ok (.getfield 25, 3) := by decide +kernel
theorem dX8_way_173 : decode cX8_way 173 = .ok (.iload 6, 2) := by decide +kernel
theorem dX8_way_175 : decode cX8_way 175 = .ok (.aload_n 0, 1) := by decide +kernel
theorem dX8_way_176 : decode cX8_way 176 = .ok (.getfield 25, 3) := by decide +kernel
theorem dX8_way_179 : decode cX8_way 179 = .ok (.iload 5, 2) := by decide +kernel
theorem dX8_way_181 : decode cX8_way 181 = .ok (.iaload, 1) := by decide +kernel
theorem dX8_way_182 : decode cX8_way 182 = .ok (.iconst 1, 1) := by decide +kernel
theorem dX8_way_183 : decode cX8_way 183 = .ok (.iadd, 1) := by decide +kernel
theorem dX8_way_184 : decode cX8_way 184 = .ok (.aload_n 0, 1) := by decide +kernel
theorem dX8_way_185 : decode cX8_way 185 = .ok (.getfield 25, 3) := by decide +kernel
theorem dX8_way_188 : decode cX8_way 188 = .ok (.iload 6, 2) := by decide +kernel
theorem dX8_way_190 : decode cX8_way 190 = .ok (.iaload, 1) := by decide +kernel
theorem dX8_way_191 : decode cX8_way 191 = .ok (.if_icmp .ge 15, 3) := by decide +kernel
theorem dX8_way_194 : decode cX8_way 194 = .ok (.aload_n 0, 1) := by decide +kernel
theorem dX8_way_195 : decode cX8_way 195 = .ok (.getfield 25, 3) := by decide +kernel
theorem dX8_way_198 : decode cX8_way 198 = .ok (.iload 5, 2) := by decide +kernel
theorem dX8_way_200 : decode cX8_way 200 = .ok (.iaload, 1) := by decide +kernel
theorem dX8_way_201 : decode cX8_way 201 = .ok (.iconst 1, 1) := by decide +kernel
theorem dX8_way_202 : decode cX8_way 202 = .ok (.iadd, 1) := by decide +kernel
theorem dX8_way_203 : decode cX8_way 203 = .ok (.goto 10, 3) := by decide +kernel
theorem dX8_way_206 : decode cX8_way 206 = .ok (.aload_n 0, 1) := by decide +kernel
theorem dX8_way_207 : decode cX8_way 207 = .ok (.getfield 25, 3) := by decide +kernel
theorem dX8_way_210 : decode cX8_way 210 = .ok (.iload 6, 2) := by decide +kernel
theorem dX8_way_212 : decode cX8_way 212 = .ok (.iaload, 1) := by decide +kernel
theorem dX8_way_213 : decode cX8_way 213 = .ok (.iastore, 1) := by decide +kernel
theorem dX8_way_214 : decode cX8_way 214 = .ok (.iinc 3 1, 3) := by decide +kernel
theorem dX8_way_217 : decode cX8_way 217 = .ok (.goto (-160), 3) := by decide +kernel
theorem dX8_way_220 : decode cX8_way 220 = .ok (.aload_n 0, 1) := by decide +kernel
theorem dX8_way_221 : decode cX8_way 221 = .ok (.getfield 25, 3) := by decide +kernel
theorem dX8_way_224 : decode cX8_way 224 = .ok (.iload_n 2, 1) := by decide +kernel
theorem dX8_way_225 : decode cX8_way 225 = .ok (.iaload, 1) := by decide +kernel
theorem dX8_way_226 : decode cX8_way 226 = .ok (.bipush 99, 2) := by decide +kernel
theorem dX8_way_228 : decode cX8_way 228 = .ok (.if_icmp .ne 8, 3) := by decide +kernel
theorem dX8_way_231 : decode cX8_way 231 = .ok (.bipush (-4), 2) := by decide +kernel
theorem dX8_way_233 : decode cX8_way 233 = .ok (.goto 9, 3) := by decide +kernel
theorem dX8_way_236 : decode cX8_way 236 = .ok (.aload_n 0, 1) := by decide +kernel
theorem dX8_way_237 : decode cX8_way 237 = .ok (.getfield 25, 3) := by decide +kernel
theorem dX8_way_240 : decode cX8_way 240 = .ok (.iload_n 2, 1) := by decide +kernel
theorem dX8_way_241 : decode cX8_way 241 = .ok (.iaload, 1) := by decide +kernel
theorem dX8_way_242 : decode cX8_way 242 = .ok (.ireturn, 1) := by decide +kernel
set_option maxRecDepth 20000 in
theorem ggX8_begins_X8_entry : GoodIn wsX8_begins wsX8_entry := goodIn_r _ [6] (by decide +kernel) (by decide +kernel)
set_option maxRecDepth 20000 in
theorem gX8_begins_X8_entry : GoodIn wsX8_begins (va_wsS RX8 72 yX8_entry wsX8_entry) := goodIn_app (goodIn_of _ (by decide +kernel)) ggX8_begins_X8_entry
set_option maxRecDepth 20000 in
theorem ggX8_begins_X8_leaves : GoodIn wsX8_begins wsX8_leaves := goodIn_r _ [9] (by decide +kernel) (by decide +kernel)
set_option maxRecDepth 20000 in
theorem gX8_begins_X8_leaves : GoodIn wsX8_begins (va_wsS RX8 112 yX8_leaves wsX8_leaves) := goodIn_app (goodIn_of _ (by decide +kernel)) ggX8_begins_X8_leaves
theorem dX8_begins_0 : decode cX8_begins 0 = .ok (.iconst 0, 1) := by decide +kernel
theorem dX8_begins_1 : decode cX8_begins 1 = .ok (.istore_n 2, 1) := by decide +kernel
theorem dX8_begins_2 : decode cX8_begins 2 = .ok (.iload_n 2, 1) := by decide +kernel
theorem dX8_begins_3 : decode cX8_begins 3 = .ok (.sipush 657, 3) := by decide +kernel
theorem dX8_begins_6 : decode cX8_begins 6 = .ok (.if_icmp .ge 21, 3) := by decide +kernel
theorem dX8_begins_9 : decode cX8_begins 9 = .ok (.aload_n 0, 1) := by decide +kernel
theorem dX8_begins_10 : decode cX8_begins 10 = .ok (.getfield 13, 3) := by decide +kernel
theorem dX8_begins_13 : decode cX8_begins 13 = .ok (.iload_n 2, 1) := by decide +kernel
theorem dX8_begins_14 : decode cX8_begins 14 = .ok (.aload_n 0, 1) := by decide +kernel
theorem dX8_begins_15 : decode cX8_begins 15 = .ok (.getfield 7, 3) := by decide +kernel
theorem dX8_begins_18 : decode cX8_begins 18 = .ok (.iload_n 2, 1) := by decide +kernel
theorem dX8_begins_19 : decode cX8_begins 19 = .ok (.iaload, 1) := by decide +kernel
theorem dX8_begins_20 : decode cX8_begins 20 = .ok (.iastore, 1) := by decide +kernel
theorem dX8_begins_21 : decode cX8_begins 21 = .ok (.iinc 2 1, 3) := by decide +kernel
theorem dX8_begins_24 : decode cX8_begins 24 = .ok (.goto (-22), 3) := by decide +kernel
theorem dX8_begins_27 : decode cX8_begins 27 = .ok (.aload_n 0, 1) := by decide +kernel
theorem dX8_begins_28 : decode cX8_begins 28 = .ok (.getfield 13, 3) := by decide +kernel
theorem dX8_begins_31 : decode cX8_begins 31 = .ok (.iconst 2, 1) := by decide +kernel
theorem dX8_begins_32 : decode cX8_begins 32 = .ok (.iaload, 1) := by decide +kernel
theorem dX8_begins_33 : decode cX8_begins 33 = .ok (.iconst 1, 1) := by decide +kernel
theorem dX8_begins_34 : decode cX8_begins 34 = .ok (.isub, 1) := by decide +kernel
theorem dX8_begins_35 : decode cX8_begins 35 = .ok (.istore_n 2, 1) := by decide +kernel
theorem dX8_begins_36 : decode cX8_begins 36 = .ok (.iload_n 2, 1) := by decide +kernel
theorem dX8_begins_37 : decode cX8_begins 37 = .ok (.ifCond .lt 33, 3) := by decide +kernel
theorem dX8_begins_40 : decode cX8_begins 40 = .ok (.iload_n 1, 1) := by decide +kernel
theorem dX8_begins_41 : decode cX8_begins 41 = .ok (.ifCond .ne 29, 3) := by decide +kernel
theorem dX8_begins_44 : decode cX8_begins 44 = .ok (.aload_n 0, 1) := by decide +kernel
theorem dX8_begins_45 : decode cX8_begins 45 = .ok (.getfield 13, 3) := by decide +kernel
theorem dX8_begins_48 : decode cX8_begins 48 = .ok (.iload_n 2, 1) := by decide +kernel
theorem dX8_begins_49 : decode cX8_begins 49 = .ok (.iconst 1, 1) := by decide +kernel
theorem dX8_begins_50 : decode cX8_begins 50 = .ok (.invokestatic 72, 3) := by decide +kernel
theorem dX8_begins_53 : decode cX8_begins 53 = .ok (.ifCond .ne 11, 3) := by decide +kernel
theorem dX8_begins_56 : decode cX8_begins 56 = .ok (.aload_n 0, 1) := by decide +kernel
theorem dX8_begins_57 : decode cX8_begins 57 = .ok (.getfield 13, 3) := by decide +kernel
theorem dX8_begins_60 : decode cX8_begins 60 = .ok (.iload_n 2, 1) := by decide +kernel
theorem dX8_begins_61 : decode cX8_begins 61 = .ok (.invokestatic 112, 3) := by decide +kernel
theorem dX8_begins_64 : decode cX8_begins 64 = .ok (.iinc 2 (-1), 3) := by decide +kernel
theorem dX8_begins_67 : decode cX8_begins 67 = .ok (.goto (-31), 3) := by decide +kernel
theorem dX8_begins_70 : decode cX8_begins 70 = .ok (.return_, 1) := by decide +kernel
set_option maxRecDepth 20000 in
theorem ggX8_tailOf_X8_inRoom : GoodIn wsX8_tailOf wsX8_inRoom := goodIn_r _ [5] (by decide +kernel) (by decide +kernel)
set_option maxRecDepth 20000 in
theorem gX8_tailOf_X8_inRoom : GoodIn wsX8_tailOf (va_wsS RX8 51 yX8_inRoom wsX8_inRoom) := goodIn_app (goodIn_of _ (by decide +kernel)) ggX8_tailOf_X8_inRoom
set_option maxRecDepth 20000 in
theorem ggX8_tailOf_X8_goes : GoodIn wsX8_tailOf wsX8_goes := goodIn_r _ [9, 10, 2, 3, 4, 5, 11, 12, 13, 14, 15, 16, 17, 18, 19, 20, 21, 22, 23, 24, 25, 26, 27, 28, 29, 30, 31, 32, 33, 34, 35, 36, 37, 38, 39, 40, 41, 42, 43, 44, 45, 46, 47, 48, 49, 50, 51, 52, 53, 54, 55, 56, 57, 58, 59, 60, 61, 62, 63, 64, 65] (by decide +kernel) (by decide +kernel)
set_option maxRecDepth 20000 in
theorem gX8_tailOf_X8_goes : GoodIn wsX8_tailOf (wsV RX8 141 RX8 yX8_goes wsX8_goes) := goodIn_app (goodIn_of _ (by decide +kernel)) ggX8_tailOf_X8_goes
theorem dX8_tailOf_0 : decode cX8_tailOf 0 = .ok (.aload_n 0, 1) := by decide +kernel
theorem dX8_tailOf_1 : decode cX8_tailOf 1 = .ok (.getfield 13, 3) := by decide +kernel
theorem dX8_tailOf_4 : decode cX8_tailOf 4 = .ok (.iload_n 1, 1) := by decide +kernel
theorem dX8_tailOf_5 : decode cX8_tailOf 5 = .ok (.iconst 2, 1) := by decide +kernel
theorem dX8_tailOf_6 : decode cX8_tailOf 6 = .ok (.invokestatic 51, 3) := by decide +kernel
theorem dX8_tailOf_9 : decode cX8_tailOf 9 = .ok (.sipush 1000, 3) := by decide +kernel
theorem dX8_tailOf_12 : decode cX8_tailOf 12 = .ok (.idiv, 1) := by decide +kernel
theorem dX8_tailOf_13 : decode cX8_tailOf 13 = .ok (.istore_n 2, 1) := by decide +kernel
theorem dX8_tailOf_14 : decode cX8_tailOf 14 = .ok (.iconst 1, 1) := by decide +kernel
theorem dX8_tailOf_15 : decode cX8_tailOf 15 = .ok (.istore_n 3, 1) := by decide +kernel
theorem dX8_tailOf_16 : decode cX8_tailOf 16 = .ok (.iload_n 3, 1) := by decide +kernel
theorem dX8_tailOf_17 : decode cX8_tailOf 17 = .ok (.sipush 200, 3) := by decide +kernel
theorem dX8_tailOf_20 : decode cX8_tailOf 20 = .ok (.if_icmp .gt 32, 3) := by decide +kernel
theorem dX8_tailOf_23 : decode cX8_tailOf 23 = .ok (.aload_n 0, 1) := by decide +kernel
theorem dX8_tailOf_24 : decode cX8_tailOf 24 = .ok (.aload_n 0, 1) := by decide +kernel
theorem dX8_tailOf_25 : decode cX8_tailOf 25 = .ok (.getfield 13, 3) := by decide +kernel
theorem dX8_tailOf_28 : decode cX8_tailOf 28 = .ok (.invokevirtual 141, 3) := by decide +kernel
theorem dX8_tailOf_31 : decode cX8_tailOf 31 = .ok (.aload_n 0, 1) := by decide +kernel
theorem dX8_tailOf_32 : decode cX8_tailOf 32 = .ok (.getfield 13, 3) := by decide +kernel
theorem dX8_tailOf_35 : decode cX8_tailOf 35 = .ok (.iload_n 1, 1) := by decide +kernel
theorem dX8_tailOf_36 : decode cX8_tailOf 36 = .ok (.iconst 2, 1) := by decide +kernel
theorem dX8_tailOf_37 : decode cX8_tailOf 37 = .ok (.invokestatic 51, 3) := by decide +kernel
theorem dX8_tailOf_40 : decode cX8_tailOf 40 = .ok (.iload_n 2, 1) := by decide +kernel
theorem dX8_tailOf_41 : decode cX8_tailOf 41 = .ok (.if_icmp .gt 5, 3) := by decide +kernel
theorem dX8_tailOf_44 : decode cX8_tailOf 44 = .ok (.iload_n 3, 1) := by decide +kernel
theorem dX8_tailOf_45 : decode cX8_tailOf 45 = .ok (.ireturn, 1) := by decide +kernel
theorem dX8_tailOf_46 : decode cX8_tailOf 46 = .ok (.iinc 3 1, 3) := by decide +kernel
theorem dX8_tailOf_49 : decode cX8_tailOf 49 = .ok (.goto (-33), 3) := by decide +kernel
theorem dX8_tailOf_52 : decode cX8_tailOf 52 = .ok (.bipush (-4), 2) := by decide +kernel
theorem dX8_tailOf_54 : decode cX8_tailOf 54 = .ok (.ireturn, 1) := by decide +kernel
set_option maxRecDepth 20000 in
theorem ggX8_plainTail_X8_begins : GoodIn wsX8_plainTail wsX8_begins := goodIn_r _ [5, 6, 7, 8, 9, 4, 10, 11, 12, 13, 62, 63, 64, 65, 66, 67, 68, 69, 70, 71, 72, 73, 74] (by decide +kernel) (by decide +kernel)
set_option maxRecDepth 20000 in
theorem gX8_plainTail_X8_begins : GoodIn wsX8_plainTail (wsV RX8 144 RX8 yX8_begins wsX8_begins) := goodIn_app (goodIn_of _ (by decide +kernel)) ggX8_plainTail_X8_begins
set_option maxRecDepth 20000 in
theorem ggX8_plainTail_X8_tailOf : GoodIn wsX8_plainTail wsX8_tailOf := goodIn_r _ [17, 6, 18, 19, 4, 20, 21, 22, 23, 24, 25, 26, 27, 28, 8, 9, 10, 11, 12, 13, 29, 30, 31, 32, 33, 34, 35, 36, 37, 38, 39, 40, 41, 42, 43, 44, 45, 46, 47, 48, 49, 50, 51, 52, 53, 54, 55, 56, 57, 58, 59, 60, 61, 62, 63, 64, 65, 66, 67, 68, 69, 70, 71, 72, 73, 74] (by decide +kernel) (by decide +kernel)
set_option maxRecDepth 20000 in
theorem gX8_plainTail_X8_tailOf : GoodIn wsX8_plainTail (wsV RX8 148 RX8 yX8_tailOf wsX8_tailOf) := goodIn_app (goodIn_of _ (by decide +kernel)) ggX8_plainTail_X8_tailOf
theorem dX8_plainTail_0 : decode cX8_plainTail 0 = .ok (.aload_n 0, 1) := by decide +kernel
theorem dX8_plainTail_1 : decode cX8_plainTail 1 = .ok (.iconst 0, 1) := by decide +kernel
theorem dX8_plainTail_2 : decode cX8_plainTail 2 = .ok (.invokevirtual 144, 3) := by decide +kernel
theorem dX8_plainTail_5 : decode cX8_plainTail 5 = .ok (.aload_n 0, 1) := by decide +kernel
theorem dX8_plainTail_6 : decode cX8_plainTail 6 = .ok (.iload_n 1, 1) := by decide +kernel
theorem dX8_plainTail_7 : decode cX8_plainTail 7 = .ok (.invokevirtual 148, 3) := by decide +kernel
theorem dX8_plainTail_10 : decode cX8_plainTail 10 = .ok (.ireturn, 1) := by decide +kernel
set_option maxRecDepth 20000 in
theorem ggX8_otherTail_X8_begins : GoodIn wsX8_otherTail wsX8_begins := goodIn_r _ [6, 1, 7, 8, 9, 5, 10, 11, 12, 13, 62, 63, 64, 65, 66, 67, 68, 69, 70, 71, 72, 73, 74] (by decide +kernel) (by decide +kernel)
set_option maxRecDepth 20000 in
theorem gX8_otherTail_X8_begins : GoodIn wsX8_otherTail (wsV RX8 144 RX8 yX8_begins wsX8_begins) := goodIn_app (goodIn_of _ (by decide +kernel)) ggX8_otherTail_X8_begins
set_option maxRecDepth 20000 in
theorem ggX8_otherTail_X8_tailOf : GoodIn wsX8_otherTail wsX8_tailOf := goodIn_r _ [17, 1, 18, 19, 5, 20, 21, 22, 23, 24, 25, 26, 27, 28, 8, 9, 10, 11, 12, 13, 29, 30, 31, 32, 33, 34, 35, 36, 37, 38, 39, 40, 41, 42, 43, 44, 45, 46, 47, 48, 49, 50, 51, 52, 53, 54, 55, 56, 57, 58, 59, 60, 61, 62, 63, 64, 65, 66, 67, 68, 69, 70, 71, 72, 73, 74] (by decide +kernel) (by decide +kernel)
set_option maxRecDepth 20000 in
theorem gX8_otherTail_X8_tailOf : GoodIn wsX8_otherTail (wsV RX8 148 RX8 yX8_tailOf wsX8_tailOf) := goodIn_app (goodIn_of _ (by decide +kernel)) ggX8_otherTail_X8_tailOf
theorem dX8_otherTail_0 : decode cX8_otherTail 0 = .ok (.aload_n 0, 1) := by decide +kernel
theorem dX8_otherTail_1 : decode cX8_otherTail 1 = .ok (.iconst 0, 1) := by decide +kernel
theorem dX8_otherTail_2 : decode cX8_otherTail 2 = .ok (.invokevirtual 144, 3) := by decide +kernel
theorem dX8_otherTail_5 : decode cX8_otherTail 5 = .ok (.bipush 57, 2) := by decide +kernel
theorem dX8_otherTail_7 : decode cX8_otherTail 7 = .ok (.bipush 10, 2) := by decide +kernel
theorem dX8_otherTail_9 : decode cX8_otherTail 9 = .ok (.iload_n 2, 1) := by decide +kernel
theorem dX8_otherTail_10 : decode cX8_otherTail 10 = .ok (.imul, 1) := by decide +kernel
theorem dX8_otherTail_11 : decode cX8_otherTail 11 = .ok (.iadd, 1) := by decide +kernel
theorem dX8_otherTail_12 : decode cX8_otherTail 12 = .ok (.istore 4, 2) := by decide +kernel
theorem dX8_otherTail_14 : decode cX8_otherTail 14 = .ok (.aload_n 0, 1) := by decide +kernel
theorem dX8_otherTail_15 : decode cX8_otherTail 15 = .ok (.getfield 13, 3) := by decide +kernel
theorem dX8_otherTail_18 : decode cX8_otherTail 18 = .ok (.iload 4, 2) := by decide +kernel
theorem dX8_otherTail_20 : decode cX8_otherTail 20 = .ok (.bipush 6, 2) := by decide +kernel
theorem dX8_otherTail_22 : decode cX8_otherTail 22 = .ok (.iadd, 1) := by decide +kernel
theorem dX8_otherTail_23 : decode cX8_otherTail 23 = .ok (.aload_n 0, 1) := by decide +kernel
theorem dX8_otherTail_24 : decode cX8_otherTail 24 = .ok (.getfield 13, 3) := by decide +kernel
theorem dX8_otherTail_27 : decode cX8_otherTail 27 = .ok (.iload 4, 2) := by decide +kernel
theorem dX8_otherTail_29 : decode cX8_otherTail 29 = .ok (.bipush 7, 2) := by decide +kernel
theorem dX8_otherTail_31 : decode cX8_otherTail 31 = .ok (.iadd, 1) := by decide +kernel
theorem dX8_otherTail_32 : decode cX8_otherTail 32 = .ok (.iaload, 1) := by decide +kernel
theorem dX8_otherTail_33 : decode cX8_otherTail 33 = .ok (.iconst 1, 1) := by decide +kernel
theorem dX8_otherTail_34 : decode cX8_otherTail 34 = .ok (.if_icmp .ne 16, 3) := by decide +kernel
theorem dX8_otherTail_37 : decode cX8_otherTail 37 = .ok (.aload_n 0, 1) := by decide +kernel
theorem dX8_otherTail_38 : decode cX8_otherTail 38 = .ok (.getfield 13, 3) := by decide +kernel
theorem dX8_otherTail_41 : decode cX8_otherTail 41 = .ok (.iload 4, 2) := by decide +kernel
theorem dX8_otherTail_43 : decode cX8_otherTail 43 = .ok (.bipush 6, 2) := by decide +kernel
theorem dX8_otherTail_45 : decode cX8_otherTail 45 = .ok (.iadd, 1) := by decide +kernel
theorem dX8_otherTail_46 : decode cX8_otherTail 46 = .ok (.iaload, 1) := by decide +kernel
theorem dX8_otherTail_47 : decode cX8_otherTail 47 = .ok (.goto 4, 3) := by decide +kernel
theorem dX8_otherTail_50 : decode cX8_otherTail 50 = .ok (.iload_n 3, 1) := by decide +kernel
theorem dX8_otherTail_51 : decode cX8_otherTail 51 = .ok (.iastore, 1) := by decide +kernel
theorem dX8_otherTail_52 : decode cX8_otherTail 52 = .ok (.aload_n 0, 1) := by decide +kernel
theorem dX8_otherTail_53 : decode cX8_otherTail 53 = .ok (.iload_n 1, 1) := by decide +kernel
theorem dX8_otherTail_54 : decode cX8_otherTail 54 = .ok (.invokevirtual 148, 3) := by decide +kernel
theorem dX8_otherTail_57 : decode cX8_otherTail 57 = .ok (.ireturn, 1) := by decide +kernel
set_option maxRecDepth 20000 in
theorem ggX8_tail_X8_isRoom : GoodIn wsX8_tail wsX8_isRoom := goodIn_r _ [6, 1, 70, 71, 72, 73, 74, 75, 76, 77, 78, 79, 80, 81, 82] (by decide +kernel) (by decide +kernel)
set_option maxRecDepth 20000 in
theorem gX8_tail_X8_isRoom : GoodIn wsX8_tail (wsV RX8 54 RX8 yX8_isRoom wsX8_isRoom) := goodIn_app (goodIn_of _ (by decide +kernel)) ggX8_tail_X8_isRoom
set_option maxRecDepth 20000 in
theorem ggX8_tail_X8_inRoom : GoodIn wsX8_tail wsX8_inRoom := goodIn_r _ [9] (by decide +kernel) (by decide +kernel)
set_option maxRecDepth 20000 in
theorem gX8_tail_X8_inRoom : GoodIn wsX8_tail (va_wsS RX8 51 yX8_inRoom wsX8_inRoom) := goodIn_app (goodIn_of _ (by decide +kernel)) ggX8_tail_X8_inRoom
set_option maxRecDepth 20000 in
theorem ggX8_tail_X8_plainTail : GoodIn wsX8_tail wsX8_plainTail := goodIn_r _ [13, 14, 15, 16, 5, 17, 18, 1, 19, 20, 21, 22, 23, 24, 25, 26, 27, 28, 7, 8, 9, 29, 30, 31, 32, 33, 34, 35, 36, 37, 38, 39, 40, 41, 42, 43, 44, 45, 46, 47, 48, 49, 50, 51, 52, 53, 54, 55, 56, 57, 58, 59, 60, 61, 62, 63, 64, 65, 66, 67, 68, 69, 70, 71, 72, 73, 74, 75, 76, 77, 78, 79, 80, 81, 82] (by decide +kernel) (by decide +kernel)
set_option maxRecDepth 20000 in
theorem gX8_tail_X8_plainTail : GoodIn wsX8_tail (wsV RX8 151 RX8 yX8_plainTail wsX8_plainTail) := goodIn_app (goodIn_of _ (by decide +kernel)) ggX8_tail_X8_plainTail
theorem dX8_tail_0 : decode cX8_tail 0 = .ok (.aload_n 0, 1) := by decide +kernel
theorem dX8_tail_1 : decode cX8_tail 1 = .ok (.iload_n 1, 1) := by decide +kernel
theorem dX8_tail_2 : decode cX8_tail 2 = .ok (.invokevirtual 54, 3) := by decide +kernel
theorem dX8_tail_5 : decode cX8_tail 5 = .ok (.ifCond .ne 7, 3) := by decide +kernel
theorem dX8_tail_8 : decode cX8_tail 8 = .ok (.iconst (-1), 1) := by decide +kernel
theorem dX8_tail_9 : decode cX8_tail 9 = .ok (.goto 25, 3) := by decide +kernel
theorem dX8_tail_12 : decode cX8_tail 12 = .ok (.aload_n 0, 1) := by decide +kernel
theorem dX8_tail_13 : decode cX8_tail 13 = .ok (.getfield 7, 3) := by decide +kernel
theorem dX8_tail_16 : decode cX8_tail 16 = .ok (.iload_n 1, 1) := by decide +kernel
theorem dX8_tail_17 : decode cX8_tail 17 = .ok (.iconst 2, 1) := by decide +kernel
theorem dX8_tail_18 : decode cX8_tail 18 = .ok (.invokestatic 51, 3) := by decide +kernel
theorem dX8_tail_21 : decode cX8_tail 21 = .ok (.ifCond .ne 8, 3) := by decide +kernel
theorem dX8_tail_24 : decode cX8_tail 24 = .ok (.bipush (-2), 2) := by decide +kernel
theorem dX8_tail_26 : decode cX8_tail 26 = .ok (.goto 8, 3) := by decide +kernel
theorem dX8_tail_29 : decode cX8_tail 29 = .ok (.aload_n 0, 1) := by decide +kernel
theorem dX8_tail_30 : decode cX8_tail 30 = .ok (.iload_n 1, 1) := by decide +kernel
theorem dX8_tail_31 : decode cX8_tail 31 = .ok (.invokevirtual 151, 3) := by decide +kernel
theorem dX8_tail_34 : decode cX8_tail 34 = .ok (.ireturn, 1) := by decide +kernel
set_option maxRecDepth 20000 in
theorem ggX8_tailWith_X8_isRoom : GoodIn wsX8_tailWith wsX8_isRoom := goodIn_r _ [6, 1, 74, 75, 76, 77, 78, 79, 80, 81, 82, 83, 84, 85, 86] (by decide +kernel) (by decide +kernel)
set_option maxRecDepth 20000 in
theorem gX8_tailWith_X8_isRoom : GoodIn wsX8_tailWith (wsV RX8 54 RX8 yX8_isRoom wsX8_isRoom) := goodIn_app (goodIn_of _ (by decide +kernel)) ggX8_tailWith_X8_isRoom
set_option maxRecDepth 20000 in
theorem ggX8_tailWith_X8_isDoor : GoodIn wsX8_tailWith wsX8_isDoor := goodIn_r _ [10, 1, 74, 75, 76, 77, 78, 79, 80, 81, 82, 83, 84, 85, 86] (by decide +kernel) (by decide +kernel)
set_option maxRecDepth 20000 in
theorem gX8_tailWith_X8_isDoor : GoodIn wsX8_tailWith (wsV RX8 65 RX8 yX8_isDoor wsX8_isDoor) := goodIn_app (goodIn_of _ (by decide +kernel)) ggX8_tailWith_X8_isDoor
set_option maxRecDepth 20000 in
theorem ggX8_tailWith_X8_in : GoodIn wsX8_tailWith wsX8_in := goodIn_r _ [13] (by decide +kernel) (by decide +kernel)
set_option maxRecDepth 20000 in
theorem gX8_tailWith_X8_in : GoodIn wsX8_tailWith (va_wsS RX8 36 yX8_in wsX8_in) := goodIn_app (goodIn_of _ (by decide +kernel)) ggX8_tailWith_X8_in
set_option maxRecDepth 20000 in
theorem ggX8_tailWith_X8_inRoom : GoodIn wsX8_tailWith wsX8_inRoom := goodIn_r _ [16] (by decide +kernel) (by decide +kernel)
set_option maxRecDepth 20000 in
theorem gX8_tailWith_X8_inRoom : GoodIn wsX8_tailWith (va_wsS RX8 51 yX8_inRoom wsX8_inRoom) := goodIn_app (goodIn_of _ (by decide +kernel)) ggX8_tailWith_X8_inRoom
set_option maxRecDepth 20000 in
theorem ggX8_tailWith_X8_otherTail : GoodIn wsX8_tailWith wsX8_otherTail := goodIn_r _ [20, 21, 22, 23, 24, 5, 25, 1, 26, 27, 28, 29, 30, 31, 32, 33, 34, 35, 14, 15, 16, 36, 37, 38, 39, 40, 41, 42, 43, 44, 45, 46, 47, 48, 49, 50, 51, 52, 11, 12, 13, 53, 54, 55, 56, 57, 58, 59, 60, 61, 62, 63, 64, 65, 66, 67, 68, 69, 70, 71, 72, 73, 74, 75, 76, 77, 78, 79, 80, 81, 82, 83, 84, 85, 86] (by decide +kernel) (by decide +kernel)
set_option maxRecDepth 20000 in
theorem gX8_tailWith_X8_otherTail : GoodIn wsX8_tailWith (wsV RX8 154 RX8 yX8_otherTail wsX8_otherTail) := goodIn_app (goodIn_of _ (by decide +kernel)) ggX8_tailWith_X8_otherTail
theorem dX8_tailWith_0 : decode cX8_tailWith 0 = .ok (.aload_n 0, 1) := by decide +kernel
theorem dX8_tailWith_1 : decode cX8_tailWith 1 = .ok (.iload_n 1, 1) := by decide +kernel
theorem dX8_tailWith_2 : decode cX8_tailWith 2 = .ok (.invokevirtual 54, 3) := by decide +kernel
theorem dX8_tailWith_5 : decode cX8_tailWith 5 = .ok (.ifCond .eq 21, 3) := by decide +kernel
theorem dX8_tailWith_8 : decode cX8_tailWith 8 = .ok (.aload_n 0, 1) := by decide +kernel
theorem dX8_tailWith_9 : decode cX8_tailWith 9 = .ok (.iload_n 2, 1) := by decide +kernel
theorem dX8_tailWith_10 : decode cX8_tailWith 10 = .ok (.invokevirtual 65, 3) := by decide +kernel
theorem dX8_tailWith_13 : decode cX8_tailWith 13 = .ok (.ifCond .eq 13, 3) := by decide +kernel
theorem dX8_tailWith_16 : decode cX8_tailWith 16 = .ok (.iload_n 3, 1) := by decide +kernel
theorem dX8_tailWith_17 : decode cX8_tailWith 17 = .ok (.iconst 0, 1) := by decide +kernel
theorem dX8_tailWith_18 : decode cX8_tailWith 18 = .ok (.bipush 10, 2) := by decide +kernel
theorem dX8_tailWith_20 : decode cX8_tailWith 20 = .ok (.invokestatic 36, 3) := by decide +kernel
theorem dX8_tailWith_23 : decode cX8_tailWith 23 = .ok (.ifCond .ne 5, 3) := by decide +kernel
theorem dX8_tailWith_26 : decode cX8_tailWith 26 = .ok (.iconst (-1), 1) := by decide +kernel
theorem dX8_tailWith_27 : decode cX8_tailWith 27 = .ok (.ireturn, 1) := by decide +kernel
theorem dX8_tailWith_28 : decode cX8_tailWith 28 = .ok (.aload_n 0, 1) := by decide +kernel
theorem dX8_tailWith_29 : decode cX8_tailWith 29 = .ok (.getfield 7, 3) := by decide +kernel
theorem dX8_tailWith_32 : decode cX8_tailWith 32 = .ok (.iload_n 1, 1) := by decide +kernel
theorem dX8_tailWith_33 : decode cX8_tailWith 33 = .ok (.iconst 2, 1) := by decide +kernel
theorem dX8_tailWith_34 : decode cX8_tailWith 34 = .ok (.invokestatic 51, 3) := by decide +kernel
theorem dX8_tailWith_37 : decode cX8_tailWith 37 = .ok (.ifCond .ne 8, 3) := by decide +kernel
theorem dX8_tailWith_40 : decode cX8_tailWith 40 = .ok (.bipush (-2), 2) := by decide +kernel
theorem dX8_tailWith_42 : decode cX8_tailWith 42 = .ok (.goto 10, 3) := by decide +kernel
theorem dX8_tailWith_45 : decode cX8_tailWith 45 = .ok (.aload_n 0, 1) := by decide +kernel
theorem dX8_tailWith_46 : decode cX8_tailWith 46 = .ok (.iload_n 1, 1) := by decide +kernel
theorem dX8_tailWith_47 : decode cX8_tailWith 47 = .ok (.iload_n 2, 1) := by decide +kernel
theorem dX8_tailWith_48 : decode cX8_tailWith 48 = .ok (.iload_n 3, 1) := by decide +kernel
theorem dX8_tailWith_49 : decode cX8_tailWith 49 = .ok (.invokevirtual 154, 3) := by decide +kernel
theorem dX8_tailWith_52 : decode cX8_tailWith 52 = .ok (.ireturn, 1) := by decide +kernel
set_option maxRecDepth 20000 in
theorem ggX8_bestDoor_X8_isRoom : GoodIn wsX8_bestDoor wsX8_isRoom := goodIn_r _ [6, 1, 74, 75, 76, 77, 78, 79, 80, 81, 82, 83, 84, 85, 86] (by decide +kernel) (by decide +kernel)
set_option maxRecDepth 20000 in
theorem gX8_bestDoor_X8_isRoom : GoodIn wsX8_bestDoor (wsV RX8 54 RX8 yX8_isRoom wsX8_isRoom) := goodIn_app (goodIn_of _ (by decide +kernel)) ggX8_bestDoor_X8_isRoom
set_option maxRecDepth 20000 in
theorem ggX8_bestDoor_X8_in : GoodIn wsX8_bestDoor wsX8_in := goodIn_r _ [9] (by decide +kernel) (by decide +kernel)
set_option maxRecDepth 20000 in
theorem gX8_bestDoor_X8_in : GoodIn wsX8_bestDoor (va_wsS RX8 36 yX8_in wsX8_in) := goodIn_app (goodIn_of _ (by decide +kernel)) ggX8_bestDoor_X8_in
set_option maxRecDepth 20000 in
theorem ggX8_bestDoor_X8_inRoom : GoodIn wsX8_bestDoor wsX8_inRoom := goodIn_r _ [12] (by decide +kernel) (by decide +kernel)
set_option maxRecDepth 20000 in
theorem gX8_bestDoor_X8_inRoom : GoodIn wsX8_bestDoor (va_wsS RX8 51 yX8_inRoom wsX8_inRoom) := goodIn_app (goodIn_of _ (by decide +kernel)) ggX8_bestDoor_X8_inRoom
set_option maxRecDepth 20000 in
theorem ggX8_bestDoor_X8_plainTail : GoodIn wsX8_bestDoor wsX8_plainTail := goodIn_r _ [16, 17, 18, 19, 5, 20, 21, 1, 22, 23, 24, 25, 26, 27, 28, 29, 30, 31, 10, 11, 12, 32, 33, 34, 35, 36, 37, 38, 39, 40, 41, 42, 43, 44, 45, 46, 47, 48, 7, 8, 9, 49, 50, 51, 52, 53, 54, 55, 56, 57, 58, 59, 60, 61, 62, 63, 64, 65, 66, 67, 68, 69, 74, 75, 76, 77, 78, 79, 80, 81, 82, 83, 84, 85, 86] (by decide +kernel) (by decide +kernel)
set_option maxRecDepth 20000 in
theorem gX8_bestDoor_X8_plainTail : GoodIn wsX8_bestDoor (wsV RX8 151 RX8 yX8_plainTail wsX8_plainTail) := goodIn_app (goodIn_of _ (by decide +kernel)) ggX8_bestDoor_X8_plainTail
set_option maxRecDepth 20000 in
theorem ggX8_bestDoor_X8_otherTail : GoodIn wsX8_bestDoor wsX8_otherTail := goodIn_r _ [73, 21, 17, 18, 19, 5, 20, 1, 22, 23, 24, 25, 26, 27, 28, 29, 30, 31, 10, 11, 12, 32, 33, 34, 35, 36, 37, 38, 39, 40, 41, 42, 43, 44, 45, 46, 47, 48, 7, 8, 9, 49, 50, 51, 52, 53, 54, 55, 56, 57, 58, 59, 60, 61, 62, 63, 64, 65, 66, 67, 68, 69, 74, 75, 76, 77, 78, 79, 80, 81, 82, 83, 84, 85, 86] (by decide +kernel) (by decide +kernel)
set_option maxRecDepth 20000 in
theorem gX8_bestDoor_X8_otherTail : GoodIn wsX8_bestDoor (wsV RX8 154 RX8 yX8_otherTail wsX8_otherTail) := goodIn_app (goodIn_of _ (by decide +kernel)) ggX8_bestDoor_X8_otherTail
theorem dX8_bestDoor_0 : decode cX8_bestDoor 0 = .ok (.aload_n 0, 1) := by decide +kernel
theorem dX8_bestDoor_1 : decode cX8_bestDoor 1 = .ok (.iload_n 1, 1) := by decide +kernel
theorem dX8_bestDoor_2 : decode cX8_bestDoor 2 = .ok (.invokevirtual 54, 3) := by decide +kernel
theorem dX8_bestDoor_5 : decode cX8_bestDoor 5 = .ok (.ifCond .eq 12, 3) := by decide +kernel
theorem dX8_bestDoor_8 : decode cX8_bestDoor 8 = .ok (.iload_n 2, 1) := by decide +kernel
theorem dX8_bestDoor_9 : decode cX8_bestDoor 9 = .ok (.iconst 0, 1) := by decide +kernel
theorem dX8_bestDoor_10 : decode cX8_bestDoor 10 = .ok (.iconst 1, 1) := by decide +kernel
theorem dX8_bestDoor_11 : decode cX8_bestDoor 11 = .ok (.invokestatic 36, 3) := by decide +kernel
theorem dX8_bestDoor_14 : decode cX8_bestDoor 14 = .ok (.ifCond .ne 5, 3) := by decide +kernel
theorem dX8_bestDoor_17 : decode cX8_bestDoor 17 = .ok (.iconst (-1), 1) := by decide +kernel
theorem dX8_bestDoor_18 : decode cX8_bestDoor 18 = .ok (.ireturn, 1) := by decide +kernel
theorem dX8_bestDoor_19 : decode cX8_bestDoor 19 = .ok (.aload_n 0, 1) := by decide +kernel
theorem dX8_bestDoor_20 : decode cX8_bestDoor 20 = .ok (.getfield 7, 3) := by decide +kernel
theorem dX8_bestDoor_23 : decode cX8_bestDoor 23 = .ok (.iload_n 1, 1) := by decide +kernel
theorem dX8_bestDoor_24 : decode cX8_bestDoor 24 = .ok (.iconst 2, 1) := by decide +kernel
theorem dX8_bestDoor_25 : decode cX8_bestDoor 25 = .ok (.invokestatic 51, 3) := by decide +kernel
theorem dX8_bestDoor_28 : decode cX8_bestDoor 28 = .ok (.ifCond .ne 6, 3) := by decide +kernel
theorem dX8_bestDoor_31 : decode cX8_bestDoor 31 = .ok (.bipush (-2), 2) := by decide +kernel
theorem dX8_bestDoor_33 : decode cX8_bestDoor 33 = .ok (.ireturn, 1) := by decide +kernel
theorem dX8_bestDoor_34 : decode cX8_bestDoor 34 = .ok (.aload_n 0, 1) := by decide +kernel
theorem dX8_bestDoor_35 : decode cX8_bestDoor 35 = .ok (.iload_n 1, 1) := by decide +kernel
theorem dX8_bestDoor_36 : decode cX8_bestDoor 36 = .ok (.invokevirtual 151, 3) := by decide +kernel
theorem dX8_bestDoor_39 : decode cX8_bestDoor 39 = .ok (.istore_n 3, 1) := by decide +kernel
theorem dX8_bestDoor_40 : decode cX8_bestDoor 40 = .ok (.bipush (-4), 2) := by decide +kernel
theorem dX8_bestDoor_42 : decode cX8_bestDoor 42 = .ok (.istore 4, 2) := by decide +kernel
theorem dX8_bestDoor_44 : decode cX8_bestDoor 44 = .ok (.iconst 0, 1) := by decide +kernel
theorem dX8_bestDoor_45 : decode cX8_bestDoor 45 = .ok (.istore 5, 2) := by decide +kernel
theorem dX8_bestDoor_47 : decode cX8_bestDoor 47 = .ok (.iload 5, 2) := by decide +kernel
theorem dX8_bestDoor_49 : decode cX8_bestDoor 49 = .ok (.iconst 2, 1) := by decide +kernel
theorem dX8_bestDoor_50 : decode cX8_bestDoor 50 = .ok (.aload_n 0, 1) := by decide +kernel
theorem dX8_bestDoor_51 : decode cX8_bestDoor 51 = .ok (.getfield 7, 3) := by decide +kernel
theorem dX8_bestDoor_54 : decode cX8_bestDoor 54 = .ok (.iconst 1, 1) := by decide +kernel
theorem dX8_bestDoor_55 : decode cX8_bestDoor 55 = .ok (.iaload, 1) := by decide +kernel
theorem dX8_bestDoor_56 : decode cX8_bestDoor 56 = .ok (.imul, 1) := by decide +kernel
theorem dX8_bestDoor_57 : decode cX8_bestDoor 57 = .ok (.if_icmp .ge 92, 3) := by decide +kernel
theorem dX8_bestDoor_60 : decode cX8_bestDoor 60 = .ok (.aload_n 0, 1) := by decide +kernel
theorem dX8_bestDoor_61 : decode cX8_bestDoor 61 = .ok (.iload_n 1, 1) := by decide +kernel
theorem dX8_bestDoor_62 : decode cX8_bestDoor 62 = .ok (.iload 5, 2) := by decide +kernel
theorem dX8_bestDoor_64 : decode cX8_bestDoor 64 = .ok (.iconst 2, 1) := by decide +kernel
theorem dX8_bestDoor_65 : decode cX8_bestDoor 65 = .ok (.idiv, 1) := by decide +kernel
theorem dX8_bestDoor_66 : decode cX8_bestDoor 66 = .ok (.bipush 10, 2) := by decide +kernel
theorem dX8_bestDoor_68 : decode cX8_bestDoor 68 = .ok (.iload 5, 2) := by decide +kernel
theorem dX8_bestDoor_70 : decode cX8_bestDoor 70 = .ok (.iconst 2, 1) := by decide +kernel
theorem dX8_bestDoor_71 : decode cX8_bestDoor 71 = .ok (.irem, 1) := by decide +kernel
theorem dX8_bestDoor_72 : decode cX8_bestDoor 72 = .ok (.imul, 1) := by decide +kernel
theorem dX8_bestDoor_73 : decode cX8_bestDoor 73 = .ok (.invokevirtual 154, 3) := by decide +kernel
theorem dX8_bestDoor_76 : decode cX8_bestDoor 76 = .ok (.istore 6, 2) := by decide +kernel
theorem dX8_bestDoor_78 : decode cX8_bestDoor 78 = .ok (.iload 6, 2) := by decide +kernel
theorem dX8_bestDoor_80 : decode cX8_bestDoor 80 = .ok (.bipush (-4), 2) := by decide +kernel
theorem dX8_bestDoor_82 : decode cX8_bestDoor 82 = .ok (.if_icmp .eq 19, 3) := by decide +kernel
theorem dX8_bestDoor_85 : decode cX8_bestDoor 85 = .ok (.iload_n 3, 1) := by decide +kernel
theorem dX8_bestDoor_86 : decode cX8_bestDoor 86 = .ok (.bipush (-4), 2) := by decide +kernel
theorem dX8_bestDoor_88 : decode cX8_bestDoor 88 = .ok (.if_icmp .eq 9, 3) := by decide +kernel
theorem dX8_bestDoor_91 : decode cX8_bestDoor 91 = .ok (.iload 6, 2) := by decide +kernel
theorem dX8_bestDoor_93 : decode cX8_bestDoor 93 = .ok (.iload_n 3, 1) := by decide +kernel
theorem dX8_bestDoor_94 : decode cX8_bestDoor 94 = .ok (.if_icmp .ge 7, 3) := by decide +kernel
theorem dX8_bestDoor_97 : decode cX8_bestDoor 97 = .ok (.iconst 1, 1) := by decide +kernel
theorem dX8_bestDoor_98 : decode cX8_bestDoor 98 = .ok (.goto 4, 3) := by decide +kernel
theorem dX8_bestDoor_101 : decode cX8_bestDoor 101 = .ok (.iconst 0, 1) := by decide +kernel
theorem dX8_bestDoor_102 : decode cX8_bestDoor 102 = .ok (.istore 7, 2) := by decide +kernel
theorem dX8_bestDoor_104 : decode cX8_bestDoor 104 = .ok (.iload 7, 2) := by decide +kernel
theorem dX8_bestDoor_106 : decode cX8_bestDoor 106 = .ok (.ifCond .eq 8, 3) := by decide +kernel
theorem dX8_bestDoor_109 : decode cX8_bestDoor 109 = .ok (.iload 6, 2) := by decide +kernel
theorem dX8_bestDoor_111 : decode cX8_bestDoor 111 = .ok (.goto 4, 3) := by decide +kernel
theorem dX8_bestDoor_114 : decode cX8_bestDoor 114 = .ok (.iload_n 3, 1) := by decide +kernel
theorem dX8_bestDoor_115 : decode cX8_bestDoor 115 = .ok (.istore_n 3, 1) := by decide +kernel
theorem dX8_bestDoor_116 : decode cX8_bestDoor 116 = .ok (.iload 7, 2) := by decide +kernel
theorem dX8_bestDoor_118 : decode cX8_bestDoor 118 = .ok (.ifCond .eq 21, 3) := by decide +kernel
theorem dX8_bestDoor_121 : decode cX8_bestDoor 121 = .ok (.bipush 100, 2) := by decide +kernel
theorem dX8_bestDoor_123 : decode cX8_bestDoor 123 = .ok (.iload 5, 2) := by decide +kernel
theorem dX8_bestDoor_125 : decode cX8_bestDoor 125 = .ok (.iconst 2, 1) := by decide +kernel
theorem dX8_bestDoor_126 : decode cX8_bestDoor 126 = .ok (.idiv, 1) := by decide +kernel
theorem dX8_bestDoor_127 : decode cX8_bestDoor 127 = .ok (.imul, 1) := by decide +kernel
theorem dX8_bestDoor_128 : decode cX8_bestDoor 128 = .ok (.bipush 10, 2) := by decide +kernel
theorem dX8_bestDoor_130 : decode cX8_bestDoor 130 = .ok (.iload 5, 2) := by decide +kernel
theorem dX8_bestDoor_132 : decode cX8_bestDoor 132 = .ok (.iconst 2, 1) := by decide +kernel
theorem dX8_bestDoor_133 : decode cX8_bestDoor 133 = .ok (.irem, 1) := by decide +kernel
theorem dX8_bestDoor_134 : decode cX8_bestDoor 134 = .ok (.imul, 1) := by decide +kernel
theorem dX8_bestDoor_135 : decode cX8_bestDoor 135 = .ok (.iadd, 1) := by decide +kernel
theorem dX8_bestDoor_136 : decode cX8_bestDoor 136 = .ok (.goto 5, 3) := by decide +kernel
theorem dX8_bestDoor_139 : decode cX8_bestDoor 139 = .ok (.iload 4, 2) := by decide +kernel
theorem dX8_bestDoor_141 : decode cX8_bestDoor 141 = .ok (.istore 4, 2) := by decide +kernel
theorem dX8_bestDoor_143 : decode cX8_bestDoor 143 = .ok (.iinc 5 1, 3) := by decide +kernel
theorem dX8_bestDoor_146 : decode cX8_bestDoor 146 = .ok (.goto (-99), 3) := by decide +kernel
theorem dX8_bestDoor_149 : decode cX8_bestDoor 149 = .ok (.iload 4, 2) := by decide +kernel
theorem dX8_bestDoor_151 : decode cX8_bestDoor 151 = .ok (.bipush (-4), 2) := by decide +kernel
theorem dX8_bestDoor_153 : decode cX8_bestDoor 153 = .ok (.if_icmp .eq 7, 3) := by decide +kernel
theorem dX8_bestDoor_156 : decode cX8_bestDoor 156 = .ok (.iload_n 2, 1) := by decide +kernel
theorem dX8_bestDoor_157 : decode cX8_bestDoor 157 = .ok (.ifCond .ne 8, 3) := by decide +kernel
theorem dX8_bestDoor_160 : decode cX8_bestDoor 160 = .ok (.iload 4, 2) := by decide +kernel
theorem dX8_bestDoor_162 : decode cX8_bestDoor 162 = .ok (.goto 4, 3) := by decide +kernel
theorem dX8_bestDoor_165 : decode cX8_bestDoor 165 = .ok (.iload_n 3, 1) := by decide +kernel
theorem dX8_bestDoor_166 : decode cX8_bestDoor 166 = .ok (.ireturn, 1) := by decide +kernel
set_option maxRecDepth 20000 in
theorem ggX8_rise_X8_isRoom : GoodIn wsX8_rise wsX8_isRoom := goodIn_r _ [6, 7, 62, 63, 64, 65, 66, 67, 68, 69, 70, 71, 72, 73, 74] (by decide +kernel) (by decide +kernel)
set_option maxRecDepth 20000 in
theorem gX8_rise_X8_isRoom : GoodIn wsX8_rise (wsV RX8 54 RX8 yX8_isRoom wsX8_isRoom) := goodIn_app (goodIn_of _ (by decide +kernel)) ggX8_rise_X8_isRoom
set_option maxRecDepth 20000 in
theorem ggX8_rise_X8_begins : GoodIn wsX8_rise wsX8_begins := goodIn_r _ [11, 1, 7, 12, 13, 5, 14, 15, 16, 17, 62, 63, 64, 65, 66, 67, 68, 69, 70, 71, 72, 73, 74] (by decide +kernel) (by decide +kernel)
set_option maxRecDepth 20000 in
theorem gX8_rise_X8_begins : GoodIn wsX8_rise (wsV RX8 144 RX8 yX8_begins wsX8_begins) := goodIn_app (goodIn_of _ (by decide +kernel)) ggX8_rise_X8_begins
set_option maxRecDepth 20000 in
theorem ggX8_rise_X8_inRoom : GoodIn wsX8_rise wsX8_inRoom := goodIn_r _ [20] (by decide +kernel) (by decide +kernel)
set_option maxRecDepth 20000 in
theorem gX8_rise_X8_inRoom : GoodIn wsX8_rise (va_wsS RX8 51 yX8_inRoom wsX8_inRoom) := goodIn_app (goodIn_of _ (by decide +kernel)) ggX8_rise_X8_inRoom
set_option maxRecDepth 20000 in
theorem ggX8_rise_X8_goes : GoodIn wsX8_rise wsX8_goes := goodIn_r _ [24, 25, 18, 19, 5, 20, 26, 27, 28, 12, 13, 14, 15, 16, 17, 29, 30, 31, 32, 33, 34, 35, 36, 37, 38, 39, 40, 41, 42, 43, 44, 45, 46, 47, 48, 49, 50, 51, 52, 53, 54, 55, 56, 57, 58, 59, 60, 61, 62, 63, 64, 65, 66, 67, 68, 69, 70, 71, 72, 73, 74] (by decide +kernel) (by decide +kernel)
set_option maxRecDepth 20000 in
theorem gX8_rise_X8_goes : GoodIn wsX8_rise (wsV RX8 141 RX8 yX8_goes wsX8_goes) := goodIn_app (goodIn_of _ (by decide +kernel)) ggX8_rise_X8_goes
theorem dX8_rise_0 : decode cX8_rise 0 = .ok (.aload_n 0, 1) := by decide +kernel
theorem dX8_rise_1 : decode cX8_rise 1 = .ok (.iload_n 1, 1) := by decide +kernel
theorem dX8_rise_2 : decode cX8_rise 2 = .ok (.invokevirtual 54, 3) := by decide +kernel
theorem dX8_rise_5 : decode cX8_rise 5 = .ok (.ifCond .ne 5, 3) := by decide +kernel
theorem dX8_rise_8 : decode cX8_rise 8 = .ok (.iconst (-1), 1) := by decide +kernel
theorem dX8_rise_9 : decode cX8_rise 9 = .ok (.ireturn, 1) := by decide +kernel
theorem dX8_rise_10 : decode cX8_rise 10 = .ok (.aload_n 0, 1) := by decide +kernel
theorem dX8_rise_11 : decode cX8_rise 11 = .ok (.iconst 0, 1) := by decide +kernel
theorem dX8_rise_12 : decode cX8_rise 12 = .ok (.invokevirtual 144, 3) := by decide +kernel
theorem dX8_rise_15 : decode cX8_rise 15 = .ok (.iconst 1, 1) := by decide +kernel
theorem dX8_rise_16 : decode cX8_rise 16 = .ok (.istore_n 2, 1) := by decide +kernel
theorem dX8_rise_17 : decode cX8_rise 17 = .ok (.iload_n 2, 1) := by decide +kernel
theorem dX8_rise_18 : decode cX8_rise 18 = .ok (.sipush 200, 3) := by decide +kernel
theorem dX8_rise_21 : decode cX8_rise 21 = .ok (.if_icmp .gt 42, 3) := by decide +kernel
theorem dX8_rise_24 : decode cX8_rise 24 = .ok (.aload_n 0, 1) := by decide +kernel
theorem dX8_rise_25 : decode cX8_rise 25 = .ok (.getfield 13, 3) := by decide +kernel
theorem dX8_rise_28 : decode cX8_rise 28 = .ok (.iload_n 1, 1) := by decide +kernel
theorem dX8_rise_29 : decode cX8_rise 29 = .ok (.iconst 2, 1) := by decide +kernel
theorem dX8_rise_30 : decode cX8_rise 30 = .ok (.invokestatic 51, 3) := by decide +kernel
theorem dX8_rise_33 : decode cX8_rise 33 = .ok (.istore_n 3, 1) := by decide +kernel
theorem dX8_rise_34 : decode cX8_rise 34 = .ok (.aload_n 0, 1) := by decide +kernel
theorem dX8_rise_35 : decode cX8_rise 35 = .ok (.aload_n 0, 1) := by decide +kernel
theorem dX8_rise_36 : decode cX8_rise 36 = .ok (.getfield 13, 3) := by decide +kernel
theorem dX8_rise_39 : decode cX8_rise 39 = .ok (.invokevirtual 141, 3) := by decide +kernel
theorem dX8_rise_42 : decode cX8_rise 42 = .ok (.aload_n 0, 1) := by decide +kernel
theorem dX8_rise_43 : decode cX8_rise 43 = .ok (.getfield 13, 3) := by decide +kernel
theorem dX8_rise_46 : decode cX8_rise 46 = .ok (.iload_n 1, 1) := by decide +kernel
theorem dX8_rise_47 : decode cX8_rise 47 = .ok (.iconst 2, 1) := by decide +kernel
theorem dX8_rise_48 : decode cX8_rise 48 = .ok (.invokestatic 51, 3) := by decide +kernel
theorem dX8_rise_51 : decode cX8_rise 51 = .ok (.iload_n 3, 1) := by decide +kernel
theorem dX8_rise_52 : decode cX8_rise 52 = .ok (.if_icmp .le 5, 3) := by decide +kernel
theorem dX8_rise_55 : decode cX8_rise 55 = .ok (.iload_n 2, 1) := by decide +kernel
theorem dX8_rise_56 : decode cX8_rise 56 = .ok (.ireturn, 1) := by decide +kernel
theorem dX8_rise_57 : decode cX8_rise 57 = .ok (.iinc 2 1, 3) := by decide +kernel
theorem dX8_rise_60 : decode cX8_rise 60 = .ok (.goto (-43), 3) := by decide +kernel
theorem dX8_rise_63 : decode cX8_rise 63 = .ok (.bipush (-4), 2) := by decide +kernel
theorem dX8_rise_65 : decode cX8_rise 65 = .ok (.ireturn, 1) := by decide +kernel
set_option maxRecDepth 20000 in
theorem ggX8_peak_X8_isRoom : GoodIn wsX8_peak wsX8_isRoom := goodIn_r _ [6, 7, 62, 63, 64, 65, 66, 67, 68, 69, 70, 71, 72, 73, 74] (by decide +kernel) (by decide +kernel)
set_option maxRecDepth 20000 in
theorem gX8_peak_X8_isRoom : GoodIn wsX8_peak (wsV RX8 54 RX8 yX8_isRoom wsX8_isRoom) := goodIn_app (goodIn_of _ (by decide +kernel)) ggX8_peak_X8_isRoom
set_option maxRecDepth 20000 in
theorem ggX8_peak_X8_in : GoodIn wsX8_peak wsX8_in := goodIn_r _ [10] (by decide +kernel) (by decide +kernel)
set_option maxRecDepth 20000 in
theorem gX8_peak_X8_in : GoodIn wsX8_peak (va_wsS RX8 36 yX8_in wsX8_in) := goodIn_app (goodIn_of _ (by decide +kernel)) ggX8_peak_X8_in
set_option maxRecDepth 20000 in
theorem ggX8_peak_X8_begins : GoodIn wsX8_peak wsX8_begins := goodIn_r _ [14, 1, 7, 15, 16, 5, 17, 18, 19, 20, 62, 63, 64, 65, 66, 67, 68, 69, 70, 71, 72, 73, 74] (by decide +kernel) (by decide +kernel)
set_option maxRecDepth 20000 in
theorem gX8_peak_X8_begins : GoodIn wsX8_peak (wsV RX8 144 RX8 yX8_begins wsX8_begins) := goodIn_app (goodIn_of _ (by decide +kernel)) ggX8_peak_X8_begins
set_option maxRecDepth 20000 in
theorem ggX8_peak_X8_inRoom : GoodIn wsX8_peak wsX8_inRoom := goodIn_r _ [23] (by decide +kernel) (by decide +kernel)
set_option maxRecDepth 20000 in
theorem gX8_peak_X8_inRoom : GoodIn wsX8_peak (va_wsS RX8 51 yX8_inRoom wsX8_inRoom) := goodIn_app (goodIn_of _ (by decide +kernel)) ggX8_peak_X8_inRoom
set_option maxRecDepth 20000 in
theorem ggX8_peak_X8_goes : GoodIn wsX8_peak wsX8_goes := goodIn_r _ [27, 28, 21, 22, 5, 23, 29, 30, 31, 15, 16, 17, 18, 19, 20, 32, 33, 34, 35, 36, 37, 38, 39, 40, 8, 9, 10, 41, 42, 43, 44, 45, 46, 47, 48, 49, 50, 51, 52, 53, 54, 55, 56, 57, 58, 59, 60, 61, 62, 63, 64, 65, 66, 67, 68, 69, 70, 71, 72, 73, 74] (by decide +kernel) (by decide +kernel)
set_option maxRecDepth 20000 in
theorem gX8_peak_X8_goes : GoodIn wsX8_peak (wsV RX8 141 RX8 yX8_goes wsX8_goes) := goodIn_app (goodIn_of _ (by decide +kernel)) ggX8_peak_X8_goes
theorem dX8_peak_0 : decode cX8_peak 0 = .ok (.aload_n 0, 1) := by decide +kernel
theorem dX8_peak_1 : decode cX8_peak 1 = .ok (.iload_n 1, 1) := by decide +kernel
theorem dX8_peak_2 : decode cX8_peak 2 = .ok (.invokevirtual 54, 3) := by decide +kernel
theorem dX8_peak_5 : decode cX8_peak 5 = .ok (.ifCond .eq 12, 3) := by decide +kernel
theorem dX8_peak_8 : decode cX8_peak 8 = .ok (.iload_n 2, 1) := by decide +kernel
theorem dX8_peak_9 : decode cX8_peak 9 = .ok (.iconst 0, 1) := by decide +kernel
theorem dX8_peak_10 : decode cX8_peak 10 = .ok (.iconst 1, 1) := by decide +kernel
theorem dX8_peak_11 : decode cX8_peak 11 = .ok (.invokestatic 36, 3) := by decide +kernel
theorem dX8_peak_14 : decode cX8_peak 14 = .ok (.ifCond .ne 5, 3) := by decide +kernel
theorem dX8_peak_17 : decode cX8_peak 17 = .ok (.iconst (-1), 1) := by decide +kernel
theorem dX8_peak_18 : decode cX8_peak 18 = .ok (.ireturn, 1) := by decide +kernel
theorem dX8_peak_19 : decode cX8_peak 19 = .ok (.aload_n 0, 1) := by decide +kernel
theorem dX8_peak_20 : decode cX8_peak 20 = .ok (.iconst 1, 1) := by decide +kernel
theorem dX8_peak_21 : decode cX8_peak 21 = .ok (.invokevirtual 144, 3) := by decide +kernel
theorem dX8_peak_24 : decode cX8_peak 24 = .ok (.aload_n 0, 1) := by decide +kernel
theorem dX8_peak_25 : decode cX8_peak 25 = .ok (.getfield 13, 3) := by decide +kernel
theorem dX8_peak_28 : decode cX8_peak 28 = .ok (.iload_n 1, 1) := by decide +kernel
theorem dX8_peak_29 : decode cX8_peak 29 = .ok (.iconst 2, 1) := by decide +kernel
theorem dX8_peak_30 : decode cX8_peak 30 = .ok (.invokestatic 51, 3) := by decide +kernel
theorem dX8_peak_33 : decode cX8_peak 33 = .ok (.istore_n 3, 1) := by decide +kernel
theorem dX8_peak_34 : decode cX8_peak 34 = .ok (.iconst 0, 1) := by decide +kernel
theorem dX8_peak_35 : decode cX8_peak 35 = .ok (.istore 4, 2) := by decide +kernel
theorem dX8_peak_37 : decode cX8_peak 37 = .ok (.iconst 1, 1) := by decide +kernel
theorem dX8_peak_38 : decode cX8_peak 38 = .ok (.istore 5, 2) := by decide +kernel
theorem dX8_peak_40 : decode cX8_peak 40 = .ok (.iload 5, 2) := by decide +kernel
theorem dX8_peak_42 : decode cX8_peak 42 = .ok (.sipush 200, 3) := by decide +kernel
theorem dX8_peak_45 : decode cX8_peak 45 = .ok (.if_icmp .gt 70, 3) := by decide +kernel
theorem dX8_peak_48 : decode cX8_peak 48 = .ok (.aload_n 0, 1) := by decide +kernel
theorem dX8_peak_49 : decode cX8_peak 49 = .ok (.aload_n 0, 1) := by decide +kernel
theorem dX8_peak_50 : decode cX8_peak 50 = .ok (.getfield 13, 3) := by decide +kernel
theorem dX8_peak_53 : decode cX8_peak 53 = .ok (.invokevirtual 141, 3) := by decide +kernel
theorem dX8_peak_56 : decode cX8_peak 56 = .ok (.aload_n 0, 1) := by decide +kernel
theorem dX8_peak_57 : decode cX8_peak 57 = .ok (.getfield 13, 3) := by decide +kernel
theorem dX8_peak_60 : decode cX8_peak 60 = .ok (.iload_n 1, 1) := by decide +kernel
theorem dX8_peak_61 : decode cX8_peak 61 = .ok (.iconst 2, 1) := by decide +kernel
theorem dX8_peak_62 : decode cX8_peak 62 = .ok (.invokestatic 51, 3) := by decide +kernel
theorem dX8_peak_65 : decode cX8_peak 65 = .ok (.iload_n 3, 1) := by decide +kernel
theorem dX8_peak_66 : decode cX8_peak 66 = .ok (.if_icmp .le 7, 3) := by decide +kernel
theorem dX8_peak_69 : decode cX8_peak 69 = .ok (.iconst 1, 1) := by decide +kernel
theorem dX8_peak_70 : decode cX8_peak 70 = .ok (.goto 4, 3) := by decide +kernel
theorem dX8_peak_73 : decode cX8_peak 73 = .ok (.iconst 0, 1) := by decide +kernel
theorem dX8_peak_74 : decode cX8_peak 74 = .ok (.istore 6, 2) := by decide +kernel
theorem dX8_peak_76 : decode cX8_peak 76 = .ok (.iload 6, 2) := by decide +kernel
theorem dX8_peak_78 : decode cX8_peak 78 = .ok (.ifCond .eq 8, 3) := by decide +kernel
theorem dX8_peak_81 : decode cX8_peak 81 = .ok (.iload 5, 2) := by decide +kernel
theorem dX8_peak_83 : decode cX8_peak 83 = .ok (.goto 5, 3) := by decide +kernel
theorem dX8_peak_86 : decode cX8_peak 86 = .ok (.iload 4, 2) := by decide +kernel
theorem dX8_peak_88 : decode cX8_peak 88 = .ok (.istore 4, 2) := by decide +kernel
theorem dX8_peak_90 : decode cX8_peak 90 = .ok (.iload 6, 2) := by decide +kernel
theorem dX8_peak_92 : decode cX8_peak 92 = .ok (.ifCond .eq 15, 3) := by decide +kernel
theorem dX8_peak_95 : decode cX8_peak 95 = .ok (.aload_n 0, 1) := by decide +kernel
theorem dX8_peak_96 : decode cX8_peak 96 = .ok (.getfield 13, 3) := by decide +kernel
theorem dX8_peak_99 : decode cX8_peak 99 = .ok (.iload_n 1, 1) := by decide +kernel
theorem dX8_peak_100 : decode cX8_peak 100 = .ok (.iconst 2, 1) := by decide +kernel
theorem dX8_peak_101 : decode cX8_peak 101 = .ok (.invokestatic 51, 3) := by decide +kernel
theorem dX8_peak_104 : decode cX8_peak 104 = .ok (.goto 4, 3) := by decide +kernel
theorem dX8_peak_107 : decode cX8_peak 107 = .ok (.iload_n 3, 1) := by decide +kernel
theorem dX8_peak_108 : decode cX8_peak 108 = .ok (.istore_n 3, 1) := by decide +kernel
theorem dX8_peak_109 : decode cX8_peak 109 = .ok (.iinc 5 1, 3) := by decide +kernel
theorem dX8_peak_112 : decode cX8_peak 112 = .ok (.goto (-72), 3) := by decide +kernel
theorem dX8_peak_115 : decode cX8_peak 115 = .ok (.iload_n 2, 1) := by decide +kernel
theorem dX8_peak_116 : decode cX8_peak 116 = .ok (.ifCond .ne 8, 3) := by decide +kernel
theorem dX8_peak_119 : decode cX8_peak 119 = .ok (.iload 4, 2) := by decide +kernel
theorem dX8_peak_121 : decode cX8_peak 121 = .ok (.goto 4, 3) := by decide +kernel
theorem dX8_peak_124 : decode cX8_peak 124 = .ok (.iload_n 3, 1) := by decide +kernel
theorem dX8_peak_125 : decode cX8_peak 125 = .ok (.ireturn, 1) := by decide +kernel
set_option maxRecDepth 20000 in
theorem ggX8_hasSound_X8_entry : GoodIn wsX8_hasSound wsX8_entry := goodIn_r _ [4] (by decide +kernel) (by decide +kernel)
set_option maxRecDepth 20000 in
theorem gX8_hasSound_X8_entry : GoodIn wsX8_hasSound (va_wsS RX8 72 yX8_entry wsX8_entry) := goodIn_app (goodIn_of _ (by decide +kernel)) ggX8_hasSound_X8_entry
theorem dX8_hasSound_0 : decode cX8_hasSound 0 = .ok (.iconst 0, 1) := by decide +kernel
theorem dX8_hasSound_1 : decode cX8_hasSound 1 = .ok (.istore_n 1, 1) := by decide +kernel
theorem dX8_hasSound_2 : decode cX8_hasSound 2 = .ok (.iconst 0, 1) := by decide +kernel
theorem dX8_hasSound_3 : decode cX8_hasSound 3 = .ok (.istore_n 2, 1) := by decide +kernel
theorem dX8_hasSound_4 : decode cX8_hasSound 4 = .ok (.iload_n 2, 1) := by decide +kernel
theorem dX8_hasSound_5 : decode cX8_hasSound 5 = .ok (.aload_n 0, 1) := by decide +kernel
theorem dX8_hasSound_6 : decode cX8_hasSound 6 = .ok (.iconst 2, 1) := by decide +kernel
theorem dX8_hasSound_7 : decode cX8_hasSound 7 = .ok (.iaload, 1) := by decide +kernel
theorem dX8_hasSound_8 : decode cX8_hasSound 8 = .ok (.if_icmp .ge 28, 3) := by decide +kernel
theorem dX8_hasSound_11 : decode cX8_hasSound 11 = .ok (.iload_n 1, 1) := by decide +kernel
theorem dX8_hasSound_12 : decode cX8_hasSound 12 = .ok (.ifCond .ne 12, 3) := by decide +kernel
theorem dX8_hasSound_15 : decode cX8_hasSound 15 = .ok (.aload_n 0, 1) := by decide +kernel
theorem dX8_hasSound_16 : decode cX8_hasSound 16 = .ok (.iload_n 2, 1) := by decide +kernel
theorem dX8_hasSound_17 : decode cX8_hasSound 17 = .ok (.iconst 1, 1) := by decide +kernel
theorem dX8_hasSound_18 : decode cX8_hasSound 18 = .ok (.invokestatic 72, 3) := by decide +kernel
theorem dX8_hasSound_21 : decode cX8_hasSound 21 = .ok (.ifCond .ne 7, 3) := by decide +kernel
theorem dX8_hasSound_24 : decode cX8_hasSound 24 = .ok (.iconst 1, 1) := by decide +kernel
theorem dX8_hasSound_25 : decode cX8_hasSound 25 = .ok (.goto 4, 3) := by decide +kernel
theorem dX8_hasSound_28 : decode cX8_hasSound 28 = .ok (.iconst 0, 1) := by decide +kernel
theorem dX8_hasSound_29 : decode cX8_hasSound 29 = .ok (.istore_n 1, 1) := by decide +kernel
theorem dX8_hasSound_30 : decode cX8_hasSound 30 = .ok (.iinc 2 1, 3) := by decide +kernel
theorem dX8_hasSound_33 : decode cX8_hasSound 33 = .ok (.goto (-29), 3) := by decide +kernel
theorem dX8_hasSound_36 : decode cX8_hasSound 36 = .ok (.iload_n 1, 1) := by decide +kernel
theorem dX8_hasSound_37 : decode cX8_hasSound 37 = .ok (.ireturn, 1) := by decide +kernel
set_option maxRecDepth 20000 in
theorem ggX8_quiet_X8_begins : GoodIn wsX8_quiet wsX8_begins := goodIn_r _ [6, 1, 7, 8, 9, 5, 10, 11, 12, 13, 70, 71, 72, 73, 74, 75, 76, 77, 78, 79, 80, 81, 82] (by decide +kernel) (by decide +kernel)
set_option maxRecDepth 20000 in
theorem gX8_quiet_X8_begins : GoodIn wsX8_quiet (wsV RX8 144 RX8 yX8_begins wsX8_begins) := goodIn_app (goodIn_of _ (by decide +kernel)) ggX8_quiet_X8_begins
set_option maxRecDepth 20000 in
theorem ggX8_quiet_X8_sumOf : GoodIn wsX8_quiet wsX8_sumOf := goodIn_r _ [16, 17, 18, 5, 19] (by decide +kernel) (by decide +kernel)
set_option maxRecDepth 20000 in
theorem gX8_quiet_X8_sumOf : GoodIn wsX8_quiet (va_wsS RX8 97 yX8_sumOf wsX8_sumOf) := goodIn_app (goodIn_of _ (by decide +kernel)) ggX8_quiet_X8_sumOf
set_option maxRecDepth 20000 in
theorem ggX8_quiet_X8_allOnWay : GoodIn wsX8_quiet wsX8_allOnWay := goodIn_r _ [22, 23, 24, 5, 25] (by decide +kernel) (by decide +kernel)
set_option maxRecDepth 20000 in
theorem gX8_quiet_X8_allOnWay : GoodIn wsX8_quiet (va_wsS RX8 100 yX8_allOnWay wsX8_allOnWay) := goodIn_app (goodIn_of _ (by decide +kernel)) ggX8_quiet_X8_allOnWay
set_option maxRecDepth 20000 in
theorem ggX8_quiet_X8_hasSound : GoodIn wsX8_quiet wsX8_hasSound := goodIn_r _ [28, 8, 9, 5, 10] (by decide +kernel) (by decide +kernel)
set_option maxRecDepth 20000 in
theorem gX8_quiet_X8_hasSound : GoodIn wsX8_quiet (va_wsS RX8 158 yX8_hasSound wsX8_hasSound) := goodIn_app (goodIn_of _ (by decide +kernel)) ggX8_quiet_X8_hasSound
set_option maxRecDepth 20000 in
theorem ggX8_quiet_X8_goes : GoodIn wsX8_quiet wsX8_goes := goodIn_r _ [32, 33, 17, 18, 5, 19, 34, 35, 36, 8, 9, 10, 11, 12, 13, 37, 38, 39, 40, 41, 42, 43, 44, 45, 46, 47, 48, 49, 50, 51, 52, 53, 54, 55, 56, 57, 58, 59, 60, 61, 62, 63, 64, 65, 66, 67, 68, 69, 70, 71, 72, 73, 74, 75, 76, 77, 78, 79, 80, 81, 82] (by decide +kernel) (by decide +kernel)
set_option maxRecDepth 20000 in
theorem gX8_quiet_X8_goes : GoodIn wsX8_quiet (wsV RX8 141 RX8 yX8_goes wsX8_goes) := goodIn_app (goodIn_of _ (by decide +kernel)) ggX8_quiet_X8_goes
theorem dX8_quiet_0 : decode cX8_quiet 0 = .ok (.aload_n 0, 1) := by decide +kernel
theorem dX8_quiet_1 : decode cX8_quiet 1 = .ok (.iconst 1, 1) := by decide +kernel
theorem dX8_quiet_2 : decode cX8_quiet 2 = .ok (.invokevirtual 144, 3) := by decide +kernel
theorem dX8_quiet_5 : decode cX8_quiet 5 = .ok (.iconst 0, 1) := by decide +kernel
theorem dX8_quiet_6 : decode cX8_quiet 6 = .ok (.istore_n 1, 1) := by decide +kernel
theorem dX8_quiet_7 : decode cX8_quiet 7 = .ok (.iload_n 1, 1) := by decide +kernel
theorem dX8_quiet_8 : decode cX8_quiet 8 = .ok (.sipush 200, 3) := by decide +kernel
theorem dX8_quiet_11 : decode cX8_quiet 11 = .ok (.if_icmp .gt 55, 3) := by decide +kernel
theorem dX8_quiet_14 : decode cX8_quiet 14 = .ok (.aload_n 0, 1) := by decide +kernel
theorem dX8_quiet_15 : decode cX8_quiet 15 = .ok (.getfield 13, 3) := by decide +kernel
theorem dX8_quiet_18 : decode cX8_quiet 18 = .ok (.iconst 2, 1) := by decide +kernel
theorem dX8_quiet_19 : decode cX8_quiet 19 = .ok (.invokestatic 97, 3) := by decide +kernel
theorem dX8_quiet_22 : decode cX8_quiet 22 = .ok (.aload_n 0, 1) := by decide +kernel
theorem dX8_quiet_23 : decode cX8_quiet 23 = .ok (.getfield 13, 3) := by decide +kernel
theorem dX8_quiet_26 : decode cX8_quiet 26 = .ok (.invokestatic 100, 3) := by decide +kernel
theorem dX8_quiet_29 : decode cX8_quiet 29 = .ok (.iadd, 1) := by decide +kernel
theorem dX8_quiet_30 : decode cX8_quiet 30 = .ok (.aload_n 0, 1) := by decide +kernel
theorem dX8_quiet_31 : decode cX8_quiet 31 = .ok (.getfield 13, 3) := by decide +kernel
theorem dX8_quiet_34 : decode cX8_quiet 34 = .ok (.bipush 8, 2) := by decide +kernel
theorem dX8_quiet_36 : decode cX8_quiet 36 = .ok (.iaload, 1) := by decide +kernel
theorem dX8_quiet_37 : decode cX8_quiet 37 = .ok (.if_icmp .gt 15, 3) := by decide +kernel
theorem dX8_quiet_40 : decode cX8_quiet 40 = .ok (.aload_n 0, 1) := by decide +kernel
theorem dX8_quiet_41 : decode cX8_quiet 41 = .ok (.getfield 13, 3) := by decide +kernel
theorem dX8_quiet_44 : decode cX8_quiet 44 = .ok (.invokestatic 158, 3) := by decide +kernel
theorem dX8_quiet_47 : decode cX8_quiet 47 = .ok (.ifCond .ne 5, 3) := by decide +kernel
theorem dX8_quiet_50 : decode cX8_quiet 50 = .ok (.iload_n 1, 1) := by decide +kernel
theorem dX8_quiet_51 : decode cX8_quiet 51 = .ok (.ireturn, 1) := by decide +kernel
theorem dX8_quiet_52 : decode cX8_quiet 52 = .ok (.aload_n 0, 1) := by decide +kernel
theorem dX8_quiet_53 : decode cX8_quiet 53 = .ok (.aload_n 0, 1) := by decide +kernel
theorem dX8_quiet_54 : decode cX8_quiet 54 = .ok (.getfield 13, 3) := by decide +kernel
theorem dX8_quiet_57 : decode cX8_quiet 57 = .ok (.invokevirtual 141, 3) := by decide +kernel
theorem dX8_quiet_60 : decode cX8_quiet 60 = .ok (.iinc 1 1, 3) := by decide +kernel
theorem dX8_quiet_63 : decode cX8_quiet 63 = .ok (.goto (-56), 3) := by decide +kernel
theorem dX8_quiet_66 : decode cX8_quiet 66 = .ok (.bipush (-4), 2) := by decide +kernel
theorem dX8_quiet_68 : decode cX8_quiet 68 = .ok (.ireturn, 1) := by decide +kernel
set_option maxRecDepth 20000 in
theorem ggX8_fell_X8_isRoom : GoodIn wsX8_fell wsX8_isRoom := goodIn_r _ [6, 1, 16, 17, 18, 19, 20, 21, 22, 23, 24, 25, 26, 27, 28] (by decide +kernel) (by decide +kernel)
set_option maxRecDepth 20000 in
theorem gX8_fell_X8_isRoom : GoodIn wsX8_fell (wsV RX8 54 RX8 yX8_isRoom wsX8_isRoom) := goodIn_app (goodIn_of _ (by decide +kernel)) ggX8_fell_X8_isRoom
set_option maxRecDepth 20000 in
theorem ggX8_fell_X8_in : GoodIn wsX8_fell wsX8_in := goodIn_r _ [9] (by decide +kernel) (by decide +kernel)
set_option maxRecDepth 20000 in
theorem gX8_fell_X8_in : GoodIn wsX8_fell (va_wsS RX8 36 yX8_in wsX8_in) := goodIn_app (goodIn_of _ (by decide +kernel)) ggX8_fell_X8_in
set_option maxRecDepth 20000 in
theorem ggX8_fell_X8_inRoom : GoodIn wsX8_fell wsX8_inRoom := goodIn_r _ [12] (by decide +kernel) (by decide +kernel)
set_option maxRecDepth 20000 in
theorem gX8_fell_X8_inRoom : GoodIn wsX8_fell (va_wsS RX8 51 yX8_inRoom wsX8_inRoom) := goodIn_app (goodIn_of _ (by decide +kernel)) ggX8_fell_X8_inRoom
set_option maxRecDepth 20000 in
theorem ggX8_fell_X8_level : GoodIn wsX8_fell wsX8_level := goodIn_r _ [15] (by decide +kernel) (by decide +kernel)
set_option maxRecDepth 20000 in
theorem gX8_fell_X8_level : GoodIn wsX8_fell (va_wsS RX8 79 yX8_level wsX8_level) := goodIn_app (goodIn_of _ (by decide +kernel)) ggX8_fell_X8_level
theorem dX8_fell_0 : decode cX8_fell 0 = .ok (.aload_n 0, 1) := by decide +kernel
theorem dX8_fell_1 : decode cX8_fell 1 = .ok (.iload_n 1, 1) := by decide +kernel
theorem dX8_fell_2 : decode cX8_fell 2 = .ok (.invokevirtual 54, 3) := by decide +kernel
theorem dX8_fell_5 : decode cX8_fell 5 = .ok (.ifCond .eq 13, 3) := by decide +kernel
theorem dX8_fell_8 : decode cX8_fell 8 = .ok (.iload_n 2, 1) := by decide +kernel
theorem dX8_fell_9 : decode cX8_fell 9 = .ok (.iconst 1, 1) := by decide +kernel
theorem dX8_fell_10 : decode cX8_fell 10 = .ok (.bipush 32, 2) := by decide +kernel
theorem dX8_fell_12 : decode cX8_fell 12 = .ok (.invokestatic 36, 3) := by decide +kernel
theorem dX8_fell_15 : decode cX8_fell 15 = .ok (.ifCond .ne 5, 3) := by decide +kernel
theorem dX8_fell_18 : decode cX8_fell 18 = .ok (.iconst (-1), 1) := by decide +kernel
theorem dX8_fell_19 : decode cX8_fell 19 = .ok (.ireturn, 1) := by decide +kernel
theorem dX8_fell_20 : decode cX8_fell 20 = .ok (.aload_n 0, 1) := by decide +kernel
theorem dX8_fell_21 : decode cX8_fell 21 = .ok (.getfield 7, 3) := by decide +kernel
theorem dX8_fell_24 : decode cX8_fell 24 = .ok (.iconst 3, 1) := by decide +kernel
theorem dX8_fell_25 : decode cX8_fell 25 = .ok (.iaload, 1) := by decide +kernel
theorem dX8_fell_26 : decode cX8_fell 26 = .ok (.iload_n 2, 1) := by decide +kernel
theorem dX8_fell_27 : decode cX8_fell 27 = .ok (.if_icmp .lt 23, 3) := by decide +kernel
theorem dX8_fell_30 : decode cX8_fell 30 = .ok (.aload_n 0, 1) := by decide +kernel
theorem dX8_fell_31 : decode cX8_fell 31 = .ok (.getfield 7, 3) := by decide +kernel
theorem dX8_fell_34 : decode cX8_fell 34 = .ok (.iload_n 1, 1) := by decide +kernel
theorem dX8_fell_35 : decode cX8_fell 35 = .ok (.iconst 5, 1) := by decide +kernel
theorem dX8_fell_36 : decode cX8_fell 36 = .ok (.invokestatic 51, 3) := by decide +kernel
theorem dX8_fell_39 : decode cX8_fell 39 = .ok (.aload_n 0, 1) := by decide +kernel
theorem dX8_fell_40 : decode cX8_fell 40 = .ok (.getfield 7, 3) := by decide +kernel
theorem dX8_fell_43 : decode cX8_fell 43 = .ok (.iconst 3, 1) := by decide +kernel
theorem dX8_fell_44 : decode cX8_fell 44 = .ok (.iaload, 1) := by decide +kernel
theorem dX8_fell_45 : decode cX8_fell 45 = .ok (.iload_n 2, 1) := by decide +kernel
theorem dX8_fell_46 : decode cX8_fell 46 = .ok (.isub, 1) := by decide +kernel
theorem dX8_fell_47 : decode cX8_fell 47 = .ok (.if_icmp .le 6, 3) := by decide +kernel
theorem dX8_fell_50 : decode cX8_fell 50 = .ok (.bipush (-2), 2) := by decide +kernel
theorem dX8_fell_52 : decode cX8_fell 52 = .ok (.ireturn, 1) := by decide +kernel
theorem dX8_fell_53 : decode cX8_fell 53 = .ok (.aload_n 0, 1) := by decide +kernel
theorem dX8_fell_54 : decode cX8_fell 54 = .ok (.getfield 7, 3) := by decide +kernel
theorem dX8_fell_57 : decode cX8_fell 57 = .ok (.sipush 401, 3) := by decide +kernel
theorem dX8_fell_60 : decode cX8_fell 60 = .ok (.bipush 32, 2) := by decide +kernel
theorem dX8_fell_62 : decode cX8_fell 62 = .ok (.iload_n 1, 1) := by decide +kernel
theorem dX8_fell_63 : decode cX8_fell 63 = .ok (.imul, 1) := by decide +kernel
theorem dX8_fell_64 : decode cX8_fell 64 = .ok (.iadd, 1) := by decide +kernel
theorem dX8_fell_65 : decode cX8_fell 65 = .ok (.iload_n 2, 1) := by decide +kernel
theorem dX8_fell_66 : decode cX8_fell 66 = .ok (.iadd, 1) := by decide +kernel
theorem dX8_fell_67 : decode cX8_fell 67 = .ok (.iconst 1, 1) := by decide +kernel
theorem dX8_fell_68 : decode cX8_fell 68 = .ok (.isub, 1) := by decide +kernel
theorem dX8_fell_69 : decode cX8_fell 69 = .ok (.iaload, 1) := by decide +kernel
theorem dX8_fell_70 : decode cX8_fell 70 = .ok (.invokestatic 79, 3) := by decide +kernel
theorem dX8_fell_73 : decode cX8_fell 73 = .ok (.istore_n 3, 1) := by decide +kernel
theorem dX8_fell_74 : decode cX8_fell 74 = .ok (.aload_n 0, 1) := by decide +kernel
theorem dX8_fell_75 : decode cX8_fell 75 = .ok (.getfield 7, 3) := by decide +kernel
theorem dX8_fell_78 : decode cX8_fell 78 = .ok (.iload_n 1, 1) := by decide +kernel
theorem dX8_fell_79 : decode cX8_fell 79 = .ok (.iconst 2, 1) := by decide +kernel
theorem dX8_fell_80 : decode cX8_fell 80 = .ok (.invokestatic 51, 3) := by decide +kernel
theorem dX8_fell_83 : decode cX8_fell 83 = .ok (.invokestatic 79, 3) := by decide +kernel
theorem dX8_fell_86 : decode cX8_fell 86 = .ok (.istore 4, 2) := by decide +kernel
theorem dX8_fell_88 : decode cX8_fell 88 = .ok (.iload_n 3, 1) := by decide +kernel
theorem dX8_fell_89 : decode cX8_fell 89 = .ok (.bipush (-4), 2) := by decide +kernel
theorem dX8_fell_91 : decode cX8_fell 91 = .ok (.if_icmp .eq 10, 3) := by decide +kernel
theorem dX8_fell_94 : decode cX8_fell 94 = .ok (.iload 4, 2) := by decide +kernel
theorem dX8_fell_96 : decode cX8_fell 96 = .ok (.bipush (-4), 2) := by decide +kernel
theorem dX8_fell_98 : decode cX8_fell 98 = .ok (.if_icmp .ne 8, 3) := by decide +kernel
theorem dX8_fell_101 : decode cX8_fell 101 = .ok (.bipush (-4), 2) := by decide +kernel
theorem dX8_fell_103 : decode cX8_fell 103 = .ok (.goto 10, 3) := by decide +kernel
theorem dX8_fell_106 : decode cX8_fell 106 = .ok (.bipush 100, 2) := by decide +kernel
theorem dX8_fell_108 : decode cX8_fell 108 = .ok (.iload_n 3, 1) := by decide +kernel
theorem dX8_fell_109 : decode cX8_fell 109 = .ok (.iadd, 1) := by decide +kernel
theorem dX8_fell_110 : decode cX8_fell 110 = .ok (.iload 4, 2) := by decide +kernel
theorem dX8_fell_112 : decode cX8_fell 112 = .ok (.isub, 1) := by decide +kernel
theorem dX8_fell_113 : decode cX8_fell 113 = .ok (.ireturn, 1) := by decide +kernel
set_option maxRecDepth 20000 in
theorem ggX8_type_X8_in : GoodIn wsX8_type wsX8_in := goodIn_r _ [6] (by decide +kernel) (by decide +kernel)
set_option maxRecDepth 20000 in
theorem gX8_type_X8_in : GoodIn wsX8_type (va_wsS RX8 36 yX8_in wsX8_in) := goodIn_app (goodIn_of _ (by decide +kernel)) ggX8_type_X8_in
theorem dX8_type_0 : decode cX8_type 0 = .ok (.iload_n 1, 1) := by decide +kernel
theorem dX8_type_1 : decode cX8_type 1 = .ok (.bipush 32, 2) := by decide +kernel
theorem dX8_type_3 : decode cX8_type 3 = .ok (.bipush 126, 2) := by decide +kernel
theorem dX8_type_5 : decode cX8_type 5 = .ok (.invokestatic 36, 3) := by decide +kernel
theorem dX8_type_8 : decode cX8_type 8 = .ok (.ifCond .ne 5, 3) := by decide +kernel
theorem dX8_type_11 : decode cX8_type 11 = .ok (.iconst (-1), 1) := by decide +kernel
theorem dX8_type_12 : decode cX8_type 12 = .ok (.ireturn, 1) := by decide +kernel
theorem dX8_type_13 : decode cX8_type 13 = .ok (.aload_n 0, 1) := by decide +kernel
theorem dX8_type_14 : decode cX8_type 14 = .ok (.getfield 104, 3) := by decide +kernel
theorem dX8_type_17 : decode cX8_type 17 = .ok (.bipush 80, 2) := by decide +kernel
theorem dX8_type_19 : decode cX8_type 19 = .ok (.if_icmp .ne 6, 3) := by decide +kernel
theorem dX8_type_22 : decode cX8_type 22 = .ok (.bipush (-3), 2) := by decide +kernel
theorem dX8_type_24 : decode cX8_type 24 = .ok (.ireturn, 1) := by decide +kernel
theorem dX8_type_25 : decode cX8_type 25 = .ok (.aload_n 0, 1) := by decide +kernel
theorem dX8_type_26 : decode cX8_type 26 = .ok (.getfield 19, 3) := by decide +kernel
theorem dX8_type_29 : decode cX8_type 29 = .ok (.aload_n 0, 1) := by decide +kernel
theorem dX8_type_30 : decode cX8_type 30 = .ok (.getfield 104, 3) := by decide +kernel
theorem dX8_type_33 : decode cX8_type 33 = .ok (.iload_n 1, 1) := by decide +kernel
theorem dX8_type_34 : decode cX8_type 34 = .ok (.iastore, 1) := by decide +kernel
theorem dX8_type_35 : decode cX8_type 35 = .ok (.aload_n 0, 1) := by decide +kernel
theorem dX8_type_36 : decode cX8_type 36 = .ok (.dup, 1) := by decide +kernel
theorem dX8_type_37 : decode cX8_type 37 = .ok (.getfield 104, 3) := by decide +kernel
theorem dX8_type_40 : decode cX8_type 40 = .ok (.iconst 1, 1) := by decide +kernel
theorem dX8_type_41 : decode cX8_type 41 = .ok (.iadd, 1) := by decide +kernel
theorem dX8_type_42 : decode cX8_type 42 = .ok (.putfield 104, 3) := by decide +kernel
theorem dX8_type_45 : decode cX8_type 45 = .ok (.aload_n 0, 1) := by decide +kernel
theorem dX8_type_46 : decode cX8_type 46 = .ok (.getfield 104, 3) := by decide +kernel
theorem dX8_type_49 : decode cX8_type 49 = .ok (.ireturn, 1) := by decide +kernel
theorem dX8_clearText_0 : decode cX8_clearText 0 = .ok (.aload_n 0, 1) := by decide +kernel
theorem dX8_clearText_1 : decode cX8_clearText 1 = .ok (.getfield 104, 3) := by decide +kernel
theorem dX8_clearText_4 : decode cX8_clearText 4 = .ok (.istore_n 1, 1) := by decide +kernel
theorem dX8_clearText_5 : decode cX8_clearText 5 = .ok (.aload_n 0, 1) := by decide +kernel
theorem dX8_clearText_6 : decode cX8_clearText 6 = .ok (.iconst 0, 1) := by decide +kernel
theorem dX8_clearText_7 : decode cX8_clearText 7 = .ok (.putfield 104, 3) := by decide +kernel
theorem dX8_clearText_10 : decode cX8_clearText 10 = .ok (.iload_n 1, 1) := by decide +kernel
theorem dX8_clearText_11 : decode cX8_clearText 11 = .ok (.ireturn, 1) := by decide +kernel
theorem dX8_isNext_0 : decode cX8_isNext 0 = .ok (.aload_n 0, 1) := by decide +kernel
theorem dX8_isNext_1 : decode cX8_isNext 1 = .ok (.getfield 162, 3) := by decide +kernel
theorem dX8_isNext_4 : decode cX8_isNext 4 = .ok (.aload_n 0, 1) := by decide +kernel
theorem dX8_isNext_5 : decode cX8_isNext 5 = .ok (.getfield 104, 3) := by decide +kernel
theorem dX8_isNext_8 : decode cX8_isNext 8 = .ok (.if_icmp .ge 20, 3) := by decide +kernel
theorem dX8_isNext_11 : decode cX8_isNext 11 = .ok (.aload_n 0, 1) := by decide +kernel
theorem dX8_isNext_12 : decode cX8_isNext 12 = .ok (.getfield 19, 3) := by decide +kernel
theorem dX8_isNext_15 : decode cX8_isNext 15 = .ok (.aload_n 0, 1) := by decide +kernel
theorem dX8_isNext_16 : decode cX8_isNext 16 = .ok (.getfield 162, 3) := by decide +kernel
theorem dX8_isNext_19 : decode cX8_isNext 19 = .ok (.iaload, 1) := by decide +kernel
theorem dX8_isNext_20 : decode cX8_isNext 20 = .ok (.iload_n 1, 1) := by decide +kernel
theorem dX8_isNext_21 : decode cX8_isNext 21 = .ok (.if_icmp .ne 7, 3) := by decide +kernel
theorem dX8_isNext_24 : decode cX8_isNext 24 = .ok (.iconst 1, 1) := by decide +kernel
theorem dX8_isNext_25 : decode cX8_isNext 25 = .ok (.goto 4, 3) := by decide +kernel
theorem dX8_isNext_28 : decode cX8_isNext 28 = .ok (.iconst 0, 1) := by decide +kernel
theorem dX8_isNext_29 : decode cX8_isNext 29 = .ok (.istore_n 2, 1) := by decide +kernel
theorem dX8_isNext_30 : decode cX8_isNext 30 = .ok (.aload_n 0, 1) := by decide +kernel
theorem dX8_isNext_31 : decode cX8_isNext 31 = .ok (.dup, 1) := by decide +kernel
theorem dX8_isNext_32 : decode cX8_isNext 32 = .ok (.getfield 162, 3) := by decide +kernel
theorem dX8_isNext_35 : decode cX8_isNext 35 = .ok (.iload_n 2, 1) := by decide +kernel
theorem dX8_isNext_36 : decode cX8_isNext 36 = .ok (.ifCond .eq 7, 3) := by decide +kernel
theorem dX8_isNext_39 : decode cX8_isNext 39 = .ok (.iconst 1, 1) := by decide +kernel
theorem dX8_isNext_40 : decode cX8_isNext 40 = .ok (.goto 4, 3) := by decide +kernel
theorem dX8_isNext_43 : decode cX8_isNext 43 = .ok (.iconst 0, 1) := by decide +kernel
theorem dX8_isNext_44 : decode cX8_isNext 44 = .ok (.iadd, 1) := by decide +kernel
theorem dX8_isNext_45 : decode cX8_isNext 45 = .ok (.putfield 162, 3) := by decide +kernel
theorem dX8_isNext_48 : decode cX8_isNext 48 = .ok (.iload_n 2, 1) := by decide +kernel
theorem dX8_isNext_49 : decode cX8_isNext 49 = .ok (.ireturn, 1) := by decide +kernel
set_option maxRecDepth 20000 in
theorem ggX8_isNumber_X8_in : GoodIn wsX8_isNumber wsX8_in := goodIn_r _ [8] (by decide +kernel) (by decide +kernel)
set_option maxRecDepth 20000 in
theorem gX8_isNumber_X8_in : GoodIn wsX8_isNumber (va_wsS RX8 36 yX8_in wsX8_in) := goodIn_app (goodIn_of _ (by decide +kernel)) ggX8_isNumber_X8_in
set_option maxRecDepth 20000 in
theorem ggX8_isNumber_X8_isNext : GoodIn wsX8_isNumber wsX8_isNext := goodIn_r _ [12, 1, 3, 4, 13, 14, 15, 16, 17, 18, 19, 20, 21, 22, 23, 24, 25] (by decide +kernel) (by decide +kernel)
set_option maxRecDepth 20000 in
theorem gX8_isNumber_X8_isNext : GoodIn wsX8_isNumber (wsV RX8 165 RX8 yX8_isNext wsX8_isNext) := goodIn_app (goodIn_of _ (by decide +kernel)) ggX8_isNumber_X8_isNext
theorem dX8_isNumber_0 : decode cX8_isNumber 0 = .ok (.aload_n 0, 1) := by decide +kernel
theorem dX8_isNumber_1 : decode cX8_isNumber 1 = .ok (.getfield 162, 3) := by decide +kernel
theorem dX8_isNumber_4 : decode cX8_isNumber 4 = .ok (.istore 4, 2) := by decide +kernel
theorem dX8_isNumber_6 : decode cX8_isNumber 6 = .ok (.aload_n 0, 1) := by decide +kernel
theorem dX8_isNumber_7 : decode cX8_isNumber 7 = .ok (.getfield 28, 3) := by decide +kernel
theorem dX8_isNumber_10 : decode cX8_isNumber 10 = .ok (.iload_n 1, 1) := by decide +kernel
theorem dX8_isNumber_11 : decode cX8_isNumber 11 = .ok (.iconst 0, 1) := by decide +kernel
theorem dX8_isNumber_12 : decode cX8_isNumber 12 = .ok (.iastore, 1) := by decide +kernel
theorem dX8_isNumber_13 : decode cX8_isNumber 13 = .ok (.aload_n 0, 1) := by decide +kernel
theorem dX8_isNumber_14 : decode cX8_isNumber 14 = .ok (.getfield 162, 3) := by decide +kernel
theorem dX8_isNumber_17 : decode cX8_isNumber 17 = .ok (.iload 4, 2) := by decide +kernel
theorem dX8_isNumber_19 : decode cX8_isNumber 19 = .ok (.isub, 1) := by decide +kernel
theorem dX8_isNumber_20 : decode cX8_isNumber 20 = .ok (.iload_n 2, 1) := by decide +kernel
theorem dX8_isNumber_21 : decode cX8_isNumber 21 = .ok (.if_icmp .ge 74, 3) := by decide +kernel
theorem dX8_isNumber_24 : decode cX8_isNumber 24 = .ok (.aload_n 0, 1) := by decide +kernel
theorem dX8_isNumber_25 : decode cX8_isNumber 25 = .ok (.getfield 162, 3) := by decide +kernel
theorem dX8_isNumber_28 : decode cX8_isNumber 28 = .ok (.aload_n 0, 1) := by decide +kernel
theorem dX8_isNumber_29 : decode cX8_isNumber 29 = .ok (.getfield 104, 3) := by decide +kernel
theorem dX8_isNumber_32 : decode cX8_isNumber 32 = .ok (.if_icmp .ge 63, 3) := by decide +kernel
theorem dX8_isNumber_35 : decode cX8_isNumber 35 = .ok (.aload_n 0, 1) := by decide +kernel
theorem dX8_isNumber_36 : decode cX8_isNumber 36 = .ok (.getfield 19, 3) := by decide +kernel
theorem dX8_isNumber_39 : decode cX8_isNumber 39 = .ok (.aload_n 0, 1) := by decide +kernel
theorem dX8_isNumber_40 : decode cX8_isNumber 40 = .ok (.getfield 162, 3) := by decide +kernel
theorem dX8_isNumber_43 : decode cX8_isNumber 43 = .ok (.iaload, 1) := by decide +kernel
theorem dX8_isNumber_44 : decode cX8_isNumber 44 = .ok (.bipush 48, 2) := by decide +kernel
theorem dX8_isNumber_46 : decode cX8_isNumber 46 = .ok (.bipush 57, 2) := by decide +kernel
theorem dX8_isNumber_48 : decode cX8_isNumber 48 = .ok (.invokestatic 36, 3) := by decide +kernel
theorem dX8_isNumber_51 : decode cX8_isNumber 51 = .ok (.ifCond .eq 44, 3) := by decide +kernel
theorem dX8_isNumber_54 : decode cX8_isNumber 54 = .ok (.aload_n 0, 1) := by decide +kernel
theorem dX8_isNumber_55 : decode cX8_isNumber 55 = .ok (.getfield 28, 3) := by decide +kernel
theorem dX8_isNumber_58 : decode cX8_isNumber 58 = .ok (.iload_n 1, 1) := by decide +kernel
theorem dX8_isNumber_59 : decode cX8_isNumber 59 = .ok (.bipush 10, 2) := by decide +kernel
theorem dX8_isNumber_61 : decode cX8_isNumber 61 = .ok (.aload_n 0, 1) := by decide +kernel
theorem dX8_isNumber_62 : decode cX8_isNumber 62 = .ok (.getfield 28, 3) := by decide +kernel
theorem dX8_isNumber_65 : decode cX8_isNumber 65 = .ok (.iload_n 1, 1) := by decide +kernel
theorem dX8_isNumber_66 : decode cX8_isNumber 66 = .ok (.iaload, 1) := by decide +kernel
theorem dX8_isNumber_67 : decode cX8_isNumber 67 = .ok (.imul, 1) := by decide +kernel
theorem dX8_isNumber_68 : decode cX8_isNumber 68 = .ok (.aload_n 0, 1) := by decide +kernel
theorem dX8_isNumber_69 : decode cX8_isNumber 69 = .ok (.getfield 19, 3) := by decide +kernel
theorem dX8_isNumber_72 : decode cX8_isNumber 72 = .ok (.aload_n 0, 1) := by decide +kernel
theorem dX8_isNumber_73 : decode cX8_isNumber 73 = .ok (.getfield 162, 3) := by decide +kernel
theorem dX8_isNumber_76 : decode cX8_isNumber 76 = .ok (.iaload, 1) := by decide +kernel
theorem dX8_isNumber_77 : decode cX8_isNumber 77 = .ok (.iadd, 1) := by decide +kernel
theorem dX8_isNumber_78 : decode cX8_isNumber 78 = .ok (.bipush 48, 2) := by decide +kernel
theorem dX8_isNumber_80 : decode cX8_isNumber 80 = .ok (.isub, 1) := by decide +kernel
theorem dX8_isNumber_81 : decode cX8_isNumber 81 = .ok (.iastore, 1) := by decide +kernel
theorem dX8_isNumber_82 : decode cX8_isNumber 82 = .ok (.aload_n 0, 1) := by decide +kernel
theorem dX8_isNumber_83 : decode cX8_isNumber 83 = .ok (.dup, 1) := by decide +kernel
theorem dX8_isNumber_84 : decode cX8_isNumber 84 = .ok (.getfield 162, 3) := by decide +kernel
theorem dX8_isNumber_87 : decode cX8_isNumber 87 = .ok (.iconst 1, 1) := by decide +kernel
theorem dX8_isNumber_88 : decode cX8_isNumber 88 = .ok (.iadd, 1) := by decide +kernel
theorem dX8_isNumber_89 : decode cX8_isNumber 89 = .ok (.putfield 162, 3) := by decide +kernel
theorem dX8_isNumber_92 : decode cX8_isNumber 92 = .ok (.goto (-79), 3) := by decide +kernel
theorem dX8_isNumber_95 : decode cX8_isNumber 95 = .ok (.aload_n 0, 1) := by decide +kernel
theorem dX8_isNumber_96 : decode cX8_isNumber 96 = .ok (.getfield 162, 3) := by decide +kernel
theorem dX8_isNumber_99 : decode cX8_isNumber 99 = .ok (.iload 4, 2) := by decide +kernel
theorem dX8_isNumber_101 : decode cX8_isNumber 101 = .ok (.if_icmp .le 15, 3) := by decide +kernel
theorem dX8_isNumber_104 : decode cX8_isNumber 104 = .ok (.aload_n 0, 1) := by decide +kernel
theorem dX8_isNumber_105 : decode cX8_isNumber 105 = .ok (.iload_n 3, 1) := by decide +kernel
theorem dX8_isNumber_106 : decode cX8_isNumber 106 = .ok (.invokevirtual 165, 3) := by decide +kernel
theorem dX8_isNumber_109 : decode cX8_isNumber 109 = .ok (.ifCond .eq 7, 3) := by decide +kernel
theorem dX8_isNumber_112 : decode cX8_isNumber 112 = .ok (.iconst 1, 1) := by decide +kernel
theorem dX8_isNumber_113 : decode cX8_isNumber 113 = .ok (.goto 4, 3) := by decide +kernel
theorem dX8_isNumber_116 : decode cX8_isNumber 116 = .ok (.iconst 0, 1) := by decide +kernel
theorem dX8_isNumber_117 : decode cX8_isNumber 117 = .ok (.ireturn, 1) := by decide +kernel
set_option maxRecDepth 20000 in
theorem ggX8_isEntry_X8_isNext : GoodIn wsX8_isEntry wsX8_isNext := goodIn_r _ [7, 8, 9, 10, 18, 19, 20, 21, 22, 23, 24, 25, 26, 27, 28, 29, 30] (by decide +kernel) (by decide +kernel)
set_option maxRecDepth 20000 in
theorem gX8_isEntry_X8_isNext : GoodIn wsX8_isEntry (wsV RX8 165 RX8 yX8_isNext wsX8_isNext) := goodIn_app (goodIn_of _ (by decide +kernel)) ggX8_isEntry_X8_isNext
set_option maxRecDepth 20000 in
theorem ggX8_isEntry_X8_isNumber : GoodIn wsX8_isEntry wsX8_isNumber := goodIn_r _ [14, 8, 2, 9, 10, 15, 16, 6, 17, 3, 4, 5, 7, 18, 19, 20, 21, 22, 23, 24, 25, 26, 27, 28, 29, 30] (by decide +kernel) (by decide +kernel)
set_option maxRecDepth 20000 in
theorem gX8_isEntry_X8_isNumber : GoodIn wsX8_isEntry (wsV RX8 171 RX8 yX8_isNumber wsX8_isNumber) := goodIn_app (goodIn_of _ (by decide +kernel)) ggX8_isEntry_X8_isNumber
theorem dX8_isEntry_0 : decode cX8_isEntry 0 = .ok (.aload_n 0, 1) := by decide +kernel
theorem dX8_isEntry_1 : decode cX8_isEntry 1 = .ok (.aload_n 0, 1) := by decide +kernel
theorem dX8_isEntry_2 : decode cX8_isEntry 2 = .ok (.bipush 115, 2) := by decide +kernel
theorem dX8_isEntry_4 : decode cX8_isEntry 4 = .ok (.invokevirtual 165, 3) := by decide +kernel
theorem dX8_isEntry_7 : decode cX8_isEntry 7 = .ok (.ifCond .eq 7, 3) := by decide +kernel
theorem dX8_isEntry_10 : decode cX8_isEntry 10 = .ok (.iconst 0, 1) := by decide +kernel
theorem dX8_isEntry_11 : decode cX8_isEntry 11 = .ok (.goto 18, 3) := by decide +kernel
theorem dX8_isEntry_14 : decode cX8_isEntry 14 = .ok (.aload_n 0, 1) := by decide +kernel
theorem dX8_isEntry_15 : decode cX8_isEntry 15 = .ok (.bipush 100, 2) := by decide +kernel
theorem dX8_isEntry_17 : decode cX8_isEntry 17 = .ok (.invokevirtual 165, 3) := by decide +kernel
theorem dX8_isEntry_20 : decode cX8_isEntry 20 = .ok (.ifCond .eq 7, 3) := by decide +kernel
theorem dX8_isEntry_23 : decode cX8_isEntry 23 = .ok (.iconst 1, 1) := by decide +kernel
theorem dX8_isEntry_24 : decode cX8_isEntry 24 = .ok (.goto 5, 3) := by decide +kernel
theorem dX8_isEntry_27 : decode cX8_isEntry 27 = .ok (.bipush (-4), 2) := by decide +kernel
theorem dX8_isEntry_29 : decode cX8_isEntry 29 = .ok (.putfield 168, 3) := by decide +kernel
theorem dX8_isEntry_32 : decode cX8_isEntry 32 = .ok (.aload_n 0, 1) := by decide +kernel
theorem dX8_isEntry_33 : decode cX8_isEntry 33 = .ok (.getfield 168, 3) := by decide +kernel
theorem dX8_isEntry_36 : decode cX8_isEntry 36 = .ok (.bipush (-4), 2) := by decide +kernel
theorem dX8_isEntry_38 : decode cX8_isEntry 38 = .ok (.if_icmp .eq 41, 3) := by decide +kernel
theorem dX8_isEntry_41 : decode cX8_isEntry 41 = .ok (.aload_n 0, 1) := by decide +kernel
theorem dX8_isEntry_42 : decode cX8_isEntry 42 = .ok (.iconst 0, 1) := by decide +kernel
theorem dX8_isEntry_43 : decode cX8_isEntry 43 = .ok (.iconst 2, 1) := by decide +kernel
theorem dX8_isEntry_44 : decode cX8_isEntry 44 = .ok (.bipush 64, 2) := by decide +kernel
theorem dX8_isEntry_46 : decode cX8_isEntry 46 = .ok (.invokevirtual 171, 3) := by decide +kernel
theorem dX8_isEntry_49 : decode cX8_isEntry 49 = .ok (.ifCond .eq 30, 3) := by decide +kernel
theorem dX8_isEntry_52 : decode cX8_isEntry 52 = .ok (.aload_n 0, 1) := by decide +kernel
theorem dX8_isEntry_53 : decode cX8_isEntry 53 = .ok (.iconst 1, 1) := by decide +kernel
theorem dX8_isEntry_54 : decode cX8_isEntry 54 = .ok (.iconst 4, 1) := by decide +kernel
theorem dX8_isEntry_55 : decode cX8_isEntry 55 = .ok (.aload_n 0, 1) := by decide +kernel
theorem dX8_isEntry_56 : decode cX8_isEntry 56 = .ok (.getfield 168, 3) := by decide +kernel
theorem dX8_isEntry_59 : decode cX8_isEntry 59 = .ok (.ifCond .ne 8, 3) := by decide +kernel
theorem dX8_isEntry_62 : decode cX8_isEntry 62 = .ok (.bipush 42, 2) := by decide +kernel
theorem dX8_isEntry_64 : decode cX8_isEntry 64 = .ok (.goto 5, 3) := by decide +kernel
theorem dX8_isEntry_67 : decode cX8_isEntry 67 = .ok (.bipush 58, 2) := by decide +kernel
theorem dX8_isEntry_69 : decode cX8_isEntry 69 = .ok (.invokevirtual 171, 3) := by decide +kernel
theorem dX8_isEntry_72 : decode cX8_isEntry 72 = .ok (.ifCond .eq 7, 3) := by decide +kernel
theorem dX8_isEntry_75 : decode cX8_isEntry 75 = .ok (.iconst 1, 1) := by decide +kernel
theorem dX8_isEntry_76 : decode cX8_isEntry 76 = .ok (.goto 4, 3) := by decide +kernel
theorem dX8_isEntry_79 : decode cX8_isEntry 79 = .ok (.iconst 0, 1) := by decide +kernel
theorem dX8_isEntry_80 : decode cX8_isEntry 80 = .ok (.istore_n 1, 1) := by decide +kernel
theorem dX8_isEntry_81 : decode cX8_isEntry 81 = .ok (.aload_n 0, 1) := by decide +kernel
theorem dX8_isEntry_82 : decode cX8_isEntry 82 = .ok (.getfield 28, 3) := by decide +kernel
theorem dX8_isEntry_85 : decode cX8_isEntry 85 = .ok (.iconst 3, 1) := by decide +kernel
theorem dX8_isEntry_86 : decode cX8_isEntry 86 = .ok (.iconst 0, 1) := by decide +kernel
theorem dX8_isEntry_87 : decode cX8_isEntry 87 = .ok (.iastore, 1) := by decide +kernel
theorem dX8_isEntry_88 : decode cX8_isEntry 88 = .ok (.iload_n 1, 1) := by decide +kernel
theorem dX8_isEntry_89 : decode cX8_isEntry 89 = .ok (.ifCond .eq 51, 3) := by decide +kernel
theorem dX8_isEntry_92 : decode cX8_isEntry 92 = .ok (.aload_n 0, 1) := by decide +kernel
theorem dX8_isEntry_93 : decode cX8_isEntry 93 = .ok (.getfield 168, 3) := by decide +kernel
theorem dX8_isEntry_96 : decode cX8_isEntry 96 = .ok (.ifCond .ne 29, 3) := by decide +kernel
theorem dX8_isEntry_99 : decode cX8_isEntry 99 = .ok (.aload_n 0, 1) := by decide +kernel
theorem dX8_isEntry_100 : decode cX8_isEntry 100 = .ok (.iconst 2, 1) := by decide +kernel
theorem dX8_isEntry_101 : decode cX8_isEntry 101 = .ok (.iconst 2, 1) := by decide +kernel
theorem dX8_isEntry_102 : decode cX8_isEntry 102 = .ok (.bipush 61, 2) := by decide +kernel
theorem dX8_isEntry_104 : decode cX8_isEntry 104 = .ok (.invokevirtual 171, 3) := by decide +kernel
theorem dX8_isEntry_107 : decode cX8_isEntry 107 = .ok (.ifCond .eq 33, 3) := by decide +kernel
theorem dX8_isEntry_110 : decode cX8_isEntry 110 = .ok (.aload_n 0, 1) := by decide +kernel
theorem dX8_isEntry_111 : decode cX8_isEntry 111 = .ok (.iconst 3, 1) := by decide +kernel
theorem dX8_isEntry_112 : decode cX8_isEntry 112 = .ok (.bipush 7, 2) := by decide +kernel
theorem dX8_isEntry_114 : decode cX8_isEntry 114 = .ok (.bipush 59, 2) := by decide +kernel
theorem dX8_isEntry_116 : decode cX8_isEntry 116 = .ok (.invokevirtual 171, 3) := by decide +kernel
theorem dX8_isEntry_119 : decode cX8_isEntry 119 = .ok (.ifCond .eq 21, 3) := by decide +kernel
theorem dX8_isEntry_122 : decode cX8_isEntry 122 = .ok (.goto 14, 3) := by decide +kernel
theorem dX8_isEntry_125 : decode cX8_isEntry 125 = .ok (.aload_n 0, 1) := by decide +kernel
theorem dX8_isEntry_126 : decode cX8_isEntry 126 = .ok (.iconst 2, 1) := by decide +kernel
theorem dX8_isEntry_127 : decode cX8_isEntry 127 = .ok (.iconst 2, 1) := by decide +kernel
theorem dX8_isEntry_128 : decode cX8_isEntry 128 = .ok (.bipush 59, 2) := by decide +kernel
theorem dX8_isEntry_130 : decode cX8_isEntry 130 = .ok (.invokevirtual 171, 3) := by decide +kernel
theorem dX8_isEntry_133 : decode cX8_isEntry 133 = .ok (.ifCond .eq 7, 3) := by decide +kernel
theorem dX8_isEntry_136 : decode cX8_isEntry 136 = .ok (.iconst 1, 1) := by decide +kernel
theorem dX8_isEntry_137 : decode cX8_isEntry 137 = .ok (.goto 4, 3) := by decide +kernel
theorem dX8_isEntry_140 : decode cX8_isEntry 140 = .ok (.iconst 0, 1) := by decide +kernel
theorem dX8_isEntry_141 : decode cX8_isEntry 141 = .ok (.ireturn, 1) := by decide +kernel
set_option maxRecDepth 20000 in
theorem ggX8_reasonOf_X8_isEntry : GoodIn wsX8_reasonOf wsX8_isEntry := goodIn_r _ [10, 1, 2, 11, 12, 13, 9, 14, 15, 16, 17, 18, 19, 20, 21, 22, 23, 24, 33, 34, 35, 36, 37, 38, 39, 40, 41, 42, 43, 44, 45] (by decide +kernel) (by decide +kernel)
set_option maxRecDepth 20000 in
theorem gX8_reasonOf_X8_isEntry : GoodIn wsX8_reasonOf (wsV RX8 174 RX8 yX8_isEntry wsX8_isEntry) := goodIn_app (goodIn_of _ (by decide +kernel)) ggX8_reasonOf_X8_isEntry
set_option maxRecDepth 20000 in
theorem ggX8_reasonOf_X8_isRoom : GoodIn wsX8_reasonOf wsX8_isRoom := goodIn_r _ [28, 4, 33, 34, 35, 36, 37, 38, 39, 40, 41, 42, 43, 44, 45] (by decide +kernel) (by decide +kernel)
set_option maxRecDepth 20000 in
theorem gX8_reasonOf_X8_isRoom : GoodIn wsX8_reasonOf (wsV RX8 54 RX8 yX8_isRoom wsX8_isRoom) := goodIn_app (goodIn_of _ (by decide +kernel)) ggX8_reasonOf_X8_isRoom
set_option maxRecDepth 20000 in
theorem ggX8_reasonOf_X8_isDoor : GoodIn wsX8_reasonOf wsX8_isDoor := goodIn_r _ [32, 4, 33, 34, 35, 36, 37, 38, 39, 40, 41, 42, 43, 44, 45] (by decide +kernel) (by decide +kernel)
set_option maxRecDepth 20000 in
theorem gX8_reasonOf_X8_isDoor : GoodIn wsX8_reasonOf (wsV RX8 65 RX8 yX8_isDoor wsX8_isDoor) := goodIn_app (goodIn_of _ (by decide +kernel)) ggX8_reasonOf_X8_isDoor
set_option maxRecDepth 20000 in
theorem ggX8_reasonOf_X8_in : GoodIn wsX8_reasonOf wsX8_in := goodIn_r _ [24] (by decide +kernel) (by decide +kernel)
set_option maxRecDepth 20000 in
theorem gX8_reasonOf_X8_in : GoodIn wsX8_reasonOf (va_wsS RX8 36 yX8_in wsX8_in) := goodIn_app (goodIn_of _ (by decide +kernel)) ggX8_reasonOf_X8_in
theorem dX8_reasonOf_0 : decode cX8_reasonOf 0 = .ok (.aload_n 0, 1) := by decide +kernel
theorem dX8_reasonOf_1 : decode cX8_reasonOf 1 = .ok (.invokevirtual 174, 3) := by decide +kernel
theorem dX8_reasonOf_4 : decode cX8_reasonOf 4 = .ok (.ifCond .ne 5, 3) := by decide +kernel
theorem dX8_reasonOf_7 : decode cX8_reasonOf 7 = .ok (.iconst 1, 1) := by decide +kernel
theorem dX8_reasonOf_8 : decode cX8_reasonOf 8 = .ok (.ireturn, 1) := by decide +kernel
theorem dX8_reasonOf_9 : decode cX8_reasonOf 9 = .ok (.aload_n 0, 1) := by decide +kernel
theorem dX8_reasonOf_10 : decode cX8_reasonOf 10 = .ok (.getfield 168, 3) := by decide +kernel
theorem dX8_reasonOf_13 : decode cX8_reasonOf 13 = .ok (.ifCond .ne 7, 3) := by decide +kernel
theorem dX8_reasonOf_16 : decode cX8_reasonOf 16 = .ok (.iconst 1, 1) := by decide +kernel
theorem dX8_reasonOf_17 : decode cX8_reasonOf 17 = .ok (.goto 4, 3) := by decide +kernel
theorem dX8_reasonOf_20 : decode cX8_reasonOf 20 = .ok (.iconst 0, 1) := by decide +kernel
theorem dX8_reasonOf_21 : decode cX8_reasonOf 21 = .ok (.istore_n 3, 1) := by decide +kernel
