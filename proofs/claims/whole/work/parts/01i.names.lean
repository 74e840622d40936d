theorem dX8_reasonOf_22 : decode cX8_reasonOf 22 = .ok (.iload_n 3, 1) := by decide +kernel
theorem dX8_reasonOf_23 : decode cX8_reasonOf 23 = .ok (.ifCond .eq 19, 3) := by decide +kernel
theorem dX8_reasonOf_26 : decode cX8_reasonOf 26 = .ok (.aload_n 0, 1) := by decide +kernel
theorem dX8_reasonOf_27 : decode cX8_reasonOf 27 = .ok (.aload_n 0, 1) := by decide +kernel
theorem dX8_reasonOf_28 : decode cX8_reasonOf 28 = .ok (.getfield 28, 3) := by decide +kernel
theorem dX8_reasonOf_31 : decode cX8_reasonOf 31 = .ok (.iconst 0, 1) := by decide +kernel
theorem dX8_reasonOf_32 : decode cX8_reasonOf 32 = .ok (.iaload, 1) := by decide +kernel
theorem dX8_reasonOf_33 : decode cX8_reasonOf 33 = .ok (.invokevirtual 54, 3) := by decide +kernel
theorem dX8_reasonOf_36 : decode cX8_reasonOf 36 = .ok (.ifCond .ne 21, 3) := by decide +kernel
theorem dX8_reasonOf_39 : decode cX8_reasonOf 39 = .ok (.goto 16, 3) := by decide +kernel
theorem dX8_reasonOf_42 : decode cX8_reasonOf 42 = .ok (.aload_n 0, 1) := by decide +kernel
theorem dX8_reasonOf_43 : decode cX8_reasonOf 43 = .ok (.aload_n 0, 1) := by decide +kernel
theorem dX8_reasonOf_44 : decode cX8_reasonOf 44 = .ok (.getfield 28, 3) := by decide +kernel
theorem dX8_reasonOf_47 : decode cX8_reasonOf 47 = .ok (.iconst 0, 1) := by decide +kernel
theorem dX8_reasonOf_48 : decode cX8_reasonOf 48 = .ok (.iaload, 1) := by decide +kernel
theorem dX8_reasonOf_49 : decode cX8_reasonOf 49 = .ok (.invokevirtual 65, 3) := by decide +kernel
theorem dX8_reasonOf_52 : decode cX8_reasonOf 52 = .ok (.ifCond .ne 5, 3) := by decide +kernel
theorem dX8_reasonOf_55 : decode cX8_reasonOf 55 = .ok (.iconst 2, 1) := by decide +kernel
theorem dX8_reasonOf_56 : decode cX8_reasonOf 56 = .ok (.ireturn, 1) := by decide +kernel
theorem dX8_reasonOf_57 : decode cX8_reasonOf 57 = .ok (.aload_n 0, 1) := by decide +kernel
theorem dX8_reasonOf_58 : decode cX8_reasonOf 58 = .ok (.getfield 28, 3) := by decide +kernel
theorem dX8_reasonOf_61 : decode cX8_reasonOf 61 = .ok (.iconst 1, 1) := by decide +kernel
theorem dX8_reasonOf_62 : decode cX8_reasonOf 62 = .ok (.iaload, 1) := by decide +kernel
theorem dX8_reasonOf_63 : decode cX8_reasonOf 63 = .ok (.sipush 5000, 3) := by decide +kernel
theorem dX8_reasonOf_66 : decode cX8_reasonOf 66 = .ok (.if_icmp .gt 51, 3) := by decide +kernel
theorem dX8_reasonOf_69 : decode cX8_reasonOf 69 = .ok (.iload_n 3, 1) := by decide +kernel
theorem dX8_reasonOf_70 : decode cX8_reasonOf 70 = .ok (.ifCond .eq 36, 3) := by decide +kernel
theorem dX8_reasonOf_73 : decode cX8_reasonOf 73 = .ok (.aload_n 0, 1) := by decide +kernel
theorem dX8_reasonOf_74 : decode cX8_reasonOf 74 = .ok (.getfield 28, 3) := by decide +kernel
theorem dX8_reasonOf_77 : decode cX8_reasonOf 77 = .ok (.iconst 2, 1) := by decide +kernel
theorem dX8_reasonOf_78 : decode cX8_reasonOf 78 = .ok (.iaload, 1) := by decide +kernel
theorem dX8_reasonOf_79 : decode cX8_reasonOf 79 = .ok (.iconst 1, 1) := by decide +kernel
theorem dX8_reasonOf_80 : decode cX8_reasonOf 80 = .ok (.bipush 20, 2) := by decide +kernel
theorem dX8_reasonOf_82 : decode cX8_reasonOf 82 = .ok (.invokestatic 36, 3) := by decide +kernel
theorem dX8_reasonOf_85 : decode cX8_reasonOf 85 = .ok (.ifCond .eq 32, 3) := by decide +kernel
theorem dX8_reasonOf_88 : decode cX8_reasonOf 88 = .ok (.aload_n 0, 1) := by decide +kernel
theorem dX8_reasonOf_89 : decode cX8_reasonOf 89 = .ok (.getfield 28, 3) := by decide +kernel
theorem dX8_reasonOf_92 : decode cX8_reasonOf 92 = .ok (.iconst 3, 1) := by decide +kernel
theorem dX8_reasonOf_93 : decode cX8_reasonOf 93 = .ok (.iaload, 1) := by decide +kernel
theorem dX8_reasonOf_94 : decode cX8_reasonOf 94 = .ok (.iconst 1, 1) := by decide +kernel
theorem dX8_reasonOf_95 : decode cX8_reasonOf 95 = .ok (.ldc 31, 2) := by decide +kernel
theorem dX8_reasonOf_97 : decode cX8_reasonOf 97 = .ok (.invokestatic 36, 3) := by decide +kernel
theorem dX8_reasonOf_100 : decode cX8_reasonOf 100 = .ok (.ifCond .ne 19, 3) := by decide +kernel
theorem dX8_reasonOf_103 : decode cX8_reasonOf 103 = .ok (.goto 14, 3) := by decide +kernel
theorem dX8_reasonOf_106 : decode cX8_reasonOf 106 = .ok (.aload_n 0, 1) := by decide +kernel
theorem dX8_reasonOf_107 : decode cX8_reasonOf 107 = .ok (.getfield 28, 3) := by decide +kernel
theorem dX8_reasonOf_110 : decode cX8_reasonOf 110 = .ok (.iconst 2, 1) := by decide +kernel
theorem dX8_reasonOf_111 : decode cX8_reasonOf 111 = .ok (.iaload, 1) := by decide +kernel
theorem dX8_reasonOf_112 : decode cX8_reasonOf 112 = .ok (.bipush 10, 2) := by decide +kernel
theorem dX8_reasonOf_114 : decode cX8_reasonOf 114 = .ok (.if_icmp .le 5, 3) := by decide +kernel
theorem dX8_reasonOf_117 : decode cX8_reasonOf 117 = .ok (.iconst 3, 1) := by decide +kernel
theorem dX8_reasonOf_118 : decode cX8_reasonOf 118 = .ok (.ireturn, 1) := by decide +kernel
theorem dX8_reasonOf_119 : decode cX8_reasonOf 119 = .ok (.aload_n 0, 1) := by decide +kernel
theorem dX8_reasonOf_120 : decode cX8_reasonOf 120 = .ok (.getfield 28, 3) := by decide +kernel
theorem dX8_reasonOf_123 : decode cX8_reasonOf 123 = .ok (.iconst 1, 1) := by decide +kernel
theorem dX8_reasonOf_124 : decode cX8_reasonOf 124 = .ok (.iaload, 1) := by decide +kernel
theorem dX8_reasonOf_125 : decode cX8_reasonOf 125 = .ok (.aload_n 0, 1) := by decide +kernel
theorem dX8_reasonOf_126 : decode cX8_reasonOf 126 = .ok (.getfield 7, 3) := by decide +kernel
theorem dX8_reasonOf_129 : decode cX8_reasonOf 129 = .ok (.iconst 3, 1) := by decide +kernel
theorem dX8_reasonOf_130 : decode cX8_reasonOf 130 = .ok (.iaload, 1) := by decide +kernel
theorem dX8_reasonOf_131 : decode cX8_reasonOf 131 = .ok (.if_icmp .ge 5, 3) := by decide +kernel
theorem dX8_reasonOf_134 : decode cX8_reasonOf 134 = .ok (.iconst 4, 1) := by decide +kernel
theorem dX8_reasonOf_135 : decode cX8_reasonOf 135 = .ok (.ireturn, 1) := by decide +kernel
theorem dX8_reasonOf_136 : decode cX8_reasonOf 136 = .ok (.aload_n 0, 1) := by decide +kernel
theorem dX8_reasonOf_137 : decode cX8_reasonOf 137 = .ok (.getfield 7, 3) := by decide +kernel
theorem dX8_reasonOf_140 : decode cX8_reasonOf 140 = .ok (.iconst 2, 1) := by decide +kernel
theorem dX8_reasonOf_141 : decode cX8_reasonOf 141 = .ok (.iaload, 1) := by decide +kernel
theorem dX8_reasonOf_142 : decode cX8_reasonOf 142 = .ok (.iload_n 1, 1) := by decide +kernel
theorem dX8_reasonOf_143 : decode cX8_reasonOf 143 = .ok (.iadd, 1) := by decide +kernel
theorem dX8_reasonOf_144 : decode cX8_reasonOf 144 = .ok (.bipush 16, 2) := by decide +kernel
theorem dX8_reasonOf_146 : decode cX8_reasonOf 146 = .ok (.if_icmp .ne 7, 3) := by decide +kernel
theorem dX8_reasonOf_149 : decode cX8_reasonOf 149 = .ok (.iconst 5, 1) := by decide +kernel
theorem dX8_reasonOf_150 : decode cX8_reasonOf 150 = .ok (.goto 40, 3) := by decide +kernel
theorem dX8_reasonOf_153 : decode cX8_reasonOf 153 = .ok (.iload_n 3, 1) := by decide +kernel
theorem dX8_reasonOf_154 : decode cX8_reasonOf 154 = .ok (.ifCond .eq 35, 3) := by decide +kernel
theorem dX8_reasonOf_157 : decode cX8_reasonOf 157 = .ok (.aload_n 0, 1) := by decide +kernel
theorem dX8_reasonOf_158 : decode cX8_reasonOf 158 = .ok (.getfield 7, 3) := by decide +kernel
theorem dX8_reasonOf_161 : decode cX8_reasonOf 161 = .ok (.iconst 5, 1) := by decide +kernel
theorem dX8_reasonOf_162 : decode cX8_reasonOf 162 = .ok (.iaload, 1) := by decide +kernel
theorem dX8_reasonOf_163 : decode cX8_reasonOf 163 = .ok (.iload_n 2, 1) := by decide +kernel
theorem dX8_reasonOf_164 : decode cX8_reasonOf 164 = .ok (.iadd, 1) := by decide +kernel
theorem dX8_reasonOf_165 : decode cX8_reasonOf 165 = .ok (.aload_n 0, 1) := by decide +kernel
theorem dX8_reasonOf_166 : decode cX8_reasonOf 166 = .ok (.getfield 28, 3) := by decide +kernel
theorem dX8_reasonOf_169 : decode cX8_reasonOf 169 = .ok (.iconst 2, 1) := by decide +kernel
theorem dX8_reasonOf_170 : decode cX8_reasonOf 170 = .ok (.iaload, 1) := by decide +kernel
theorem dX8_reasonOf_171 : decode cX8_reasonOf 171 = .ok (.aload_n 0, 1) := by decide +kernel
theorem dX8_reasonOf_172 : decode cX8_reasonOf 172 = .ok (.getfield 28, 3) := by decide +kernel
theorem dX8_reasonOf_175 : decode cX8_reasonOf 175 = .ok (.iconst 3, 1) := by decide +kernel
theorem dX8_reasonOf_176 : decode cX8_reasonOf 176 = .ok (.iaload, 1) := by decide +kernel
theorem dX8_reasonOf_177 : decode cX8_reasonOf 177 = .ok (.imul, 1) := by decide +kernel
theorem dX8_reasonOf_178 : decode cX8_reasonOf 178 = .ok (.iadd, 1) := by decide +kernel
theorem dX8_reasonOf_179 : decode cX8_reasonOf 179 = .ok (.ldc 107, 2) := by decide +kernel
theorem dX8_reasonOf_181 : decode cX8_reasonOf 181 = .ok (.if_icmp .le 8, 3) := by decide +kernel
theorem dX8_reasonOf_184 : decode cX8_reasonOf 184 = .ok (.bipush 6, 2) := by decide +kernel
theorem dX8_reasonOf_186 : decode cX8_reasonOf 186 = .ok (.goto 4, 3) := by decide +kernel
theorem dX8_reasonOf_189 : decode cX8_reasonOf 189 = .ok (.iconst 0, 1) := by decide +kernel
theorem dX8_reasonOf_190 : decode cX8_reasonOf 190 = .ok (.ireturn, 1) := by decide +kernel
set_option maxRecDepth 20000 in
theorem ggX8_reads_X8_reasonOf : GoodIn wsX8_reads wsX8_reasonOf := goodIn_r _ [11, 5, 6, 12, 13, 14, 15, 16, 17, 10, 18, 19, 20, 21, 22, 1, 3, 23, 24, 25, 26, 27, 28, 29, 30, 31, 32, 33, 34, 35, 36, 37, 38, 39, 40, 41, 42, 43, 44, 45, 46, 47, 48, 49, 50, 51] (by decide +kernel) (by decide +kernel)
set_option maxRecDepth 20000 in
theorem gX8_reads_X8_reasonOf : GoodIn wsX8_reads (wsV RX8 184 RX8 yX8_reasonOf wsX8_reasonOf) := goodIn_app (goodIn_of _ (by decide +kernel)) ggX8_reads_X8_reasonOf
theorem dX8_reads_0 : decode cX8_reads 0 = .ok (.aload_n 0, 1) := by decide +kernel
theorem dX8_reads_1 : decode cX8_reads 1 = .ok (.iconst 0, 1) := by decide +kernel
theorem dX8_reads_2 : decode cX8_reads 2 = .ok (.putfield 162, 3) := by decide +kernel
theorem dX8_reads_5 : decode cX8_reads 5 = .ok (.aload_n 0, 1) := by decide +kernel
theorem dX8_reads_6 : decode cX8_reads 6 = .ok (.iconst 0, 1) := by decide +kernel
theorem dX8_reads_7 : decode cX8_reads 7 = .ok (.putfield 178, 3) := by decide +kernel
theorem dX8_reads_10 : decode cX8_reads 10 = .ok (.iconst 0, 1) := by decide +kernel
theorem dX8_reads_11 : decode cX8_reads 11 = .ok (.istore_n 1, 1) := by decide +kernel
theorem dX8_reads_12 : decode cX8_reads 12 = .ok (.aload_n 0, 1) := by decide +kernel
theorem dX8_reads_13 : decode cX8_reads 13 = .ok (.getfield 162, 3) := by decide +kernel
theorem dX8_reads_16 : decode cX8_reads 16 = .ok (.aload_n 0, 1) := by decide +kernel
theorem dX8_reads_17 : decode cX8_reads 17 = .ok (.getfield 104, 3) := by decide +kernel
theorem dX8_reads_20 : decode cX8_reads 20 = .ok (.if_icmp .ge 67, 3) := by decide +kernel
theorem dX8_reads_23 : decode cX8_reads 23 = .ok (.aload_n 0, 1) := by decide +kernel
theorem dX8_reads_24 : decode cX8_reads 24 = .ok (.aload_n 0, 1) := by decide +kernel
theorem dX8_reads_25 : decode cX8_reads 25 = .ok (.getfield 162, 3) := by decide +kernel
theorem dX8_reads_28 : decode cX8_reads 28 = .ok (.putfield 181, 3) := by decide +kernel
theorem dX8_reads_31 : decode cX8_reads 31 = .ok (.aload_n 0, 1) := by decide +kernel
theorem dX8_reads_32 : decode cX8_reads 32 = .ok (.aload_n 0, 1) := by decide +kernel
theorem dX8_reads_33 : decode cX8_reads 33 = .ok (.getfield 178, 3) := by decide +kernel
theorem dX8_reads_36 : decode cX8_reads 36 = .ok (.iload_n 1, 1) := by decide +kernel
theorem dX8_reads_37 : decode cX8_reads 37 = .ok (.invokevirtual 184, 3) := by decide +kernel
theorem dX8_reads_40 : decode cX8_reads 40 = .ok (.istore_n 2, 1) := by decide +kernel
theorem dX8_reads_41 : decode cX8_reads 41 = .ok (.iload_n 2, 1) := by decide +kernel
theorem dX8_reads_42 : decode cX8_reads 42 = .ok (.ifCond .eq 5, 3) := by decide +kernel
theorem dX8_reads_45 : decode cX8_reads 45 = .ok (.iload_n 2, 1) := by decide +kernel
theorem dX8_reads_46 : decode cX8_reads 46 = .ok (.ireturn, 1) := by decide +kernel
theorem dX8_reads_47 : decode cX8_reads 47 = .ok (.aload_n 0, 1) := by decide +kernel
theorem dX8_reads_48 : decode cX8_reads 48 = .ok (.dup, 1) := by decide +kernel
theorem dX8_reads_49 : decode cX8_reads 49 = .ok (.getfield 178, 3) := by decide +kernel
theorem dX8_reads_52 : decode cX8_reads 52 = .ok (.iconst 1, 1) := by decide +kernel
theorem dX8_reads_53 : decode cX8_reads 53 = .ok (.iadd, 1) := by decide +kernel
theorem dX8_reads_54 : decode cX8_reads 54 = .ok (.putfield 178, 3) := by decide +kernel
theorem dX8_reads_57 : decode cX8_reads 57 = .ok (.iload_n 1, 1) := by decide +kernel
theorem dX8_reads_58 : decode cX8_reads 58 = .ok (.aload_n 0, 1) := by decide +kernel
theorem dX8_reads_59 : decode cX8_reads 59 = .ok (.getfield 168, 3) := by decide +kernel
theorem dX8_reads_62 : decode cX8_reads 62 = .ok (.ifCond .ne 19, 3) := by decide +kernel
theorem dX8_reads_65 : decode cX8_reads 65 = .ok (.aload_n 0, 1) := by decide +kernel
theorem dX8_reads_66 : decode cX8_reads 66 = .ok (.getfield 28, 3) := by decide +kernel
theorem dX8_reads_69 : decode cX8_reads 69 = .ok (.iconst 2, 1) := by decide +kernel
theorem dX8_reads_70 : decode cX8_reads 70 = .ok (.iaload, 1) := by decide +kernel
theorem dX8_reads_71 : decode cX8_reads 71 = .ok (.aload_n 0, 1) := by decide +kernel
theorem dX8_reads_72 : decode cX8_reads 72 = .ok (.getfield 28, 3) := by decide +kernel
theorem dX8_reads_75 : decode cX8_reads 75 = .ok (.iconst 3, 1) := by decide +kernel
theorem dX8_reads_76 : decode cX8_reads 76 = .ok (.iaload, 1) := by decide +kernel
theorem dX8_reads_77 : decode cX8_reads 77 = .ok (.imul, 1) := by decide +kernel
theorem dX8_reads_78 : decode cX8_reads 78 = .ok (.goto 4, 3) := by decide +kernel
theorem dX8_reads_81 : decode cX8_reads 81 = .ok (.iconst 0, 1) := by decide +kernel
theorem dX8_reads_82 : decode cX8_reads 82 = .ok (.iadd, 1) := by decide +kernel
theorem dX8_reads_83 : decode cX8_reads 83 = .ok (.istore_n 1, 1) := by decide +kernel
theorem dX8_reads_84 : decode cX8_reads 84 = .ok (.goto (-72), 3) := by decide +kernel
theorem dX8_reads_87 : decode cX8_reads 87 = .ok (.iconst 0, 1) := by decide +kernel
theorem dX8_reads_88 : decode cX8_reads 88 = .ok (.ireturn, 1) := by decide +kernel
set_option maxRecDepth 20000 in
theorem ggX8_fault_X8_in : GoodIn wsX8_fault wsX8_in := goodIn_r _ [5] (by decide +kernel) (by decide +kernel)
set_option maxRecDepth 20000 in
theorem gX8_fault_X8_in : GoodIn wsX8_fault (va_wsS RX8 36 yX8_in wsX8_in) := goodIn_app (goodIn_of _ (by decide +kernel)) ggX8_fault_X8_in
set_option maxRecDepth 20000 in
theorem ggX8_fault_X8_reads : GoodIn wsX8_fault wsX8_reads := goodIn_r _ [9, 10, 11, 12, 1, 13, 14, 15, 16, 17, 4, 18, 19, 20, 21, 22, 23, 24, 25, 26, 27, 28, 29, 30, 31, 32, 33, 34, 2, 3, 5, 35, 36, 37, 38, 39, 40, 41, 42, 43, 44, 45, 46, 47, 48, 49, 50, 51, 52, 53, 54, 55] (by decide +kernel) (by decide +kernel)
set_option maxRecDepth 20000 in
theorem gX8_fault_X8_reads : GoodIn wsX8_fault (wsV RX8 187 RX8 yX8_reads wsX8_reads) := goodIn_app (goodIn_of _ (by decide +kernel)) ggX8_fault_X8_reads
theorem dX8_fault_0 : decode cX8_fault 0 = .ok (.iload_n 1, 1) := by decide +kernel
theorem dX8_fault_1 : decode cX8_fault 1 = .ok (.iconst 0, 1) := by decide +kernel
theorem dX8_fault_2 : decode cX8_fault 2 = .ok (.iconst 1, 1) := by decide +kernel
theorem dX8_fault_3 : decode cX8_fault 3 = .ok (.invokestatic 36, 3) := by decide +kernel
theorem dX8_fault_6 : decode cX8_fault 6 = .ok (.ifCond .ne 5, 3) := by decide +kernel
theorem dX8_fault_9 : decode cX8_fault 9 = .ok (.iconst (-1), 1) := by decide +kernel
theorem dX8_fault_10 : decode cX8_fault 10 = .ok (.ireturn, 1) := by decide +kernel
theorem dX8_fault_11 : decode cX8_fault 11 = .ok (.aload_n 0, 1) := by decide +kernel
theorem dX8_fault_12 : decode cX8_fault 12 = .ok (.invokevirtual 187, 3) := by decide +kernel
theorem dX8_fault_15 : decode cX8_fault 15 = .ok (.istore_n 2, 1) := by decide +kernel
theorem dX8_fault_16 : decode cX8_fault 16 = .ok (.iload_n 2, 1) := by decide +kernel
theorem dX8_fault_17 : decode cX8_fault 17 = .ok (.ifCond .ne 8, 3) := by decide +kernel
theorem dX8_fault_20 : decode cX8_fault 20 = .ok (.bipush (-4), 2) := by decide +kernel
theorem dX8_fault_22 : decode cX8_fault 22 = .ok (.goto 15, 3) := by decide +kernel
theorem dX8_fault_25 : decode cX8_fault 25 = .ok (.iload_n 1, 1) := by decide +kernel
theorem dX8_fault_26 : decode cX8_fault 26 = .ok (.ifCond .ne 10, 3) := by decide +kernel
theorem dX8_fault_29 : decode cX8_fault 29 = .ok (.aload_n 0, 1) := by decide +kernel
theorem dX8_fault_30 : decode cX8_fault 30 = .ok (.getfield 181, 3) := by decide +kernel
theorem dX8_fault_33 : decode cX8_fault 33 = .ok (.goto 4, 3) := by decide +kernel
theorem dX8_fault_36 : decode cX8_fault 36 = .ok (.iload_n 2, 1) := by decide +kernel
theorem dX8_fault_37 : decode cX8_fault 37 = .ok (.ireturn, 1) := by decide +kernel
set_option maxRecDepth 20000 in
theorem ggX8_load_X8_reads : GoodIn wsX8_load wsX8_reads := goodIn_r _ [10, 1, 5, 2, 11, 4, 3, 12, 13, 14, 9, 15, 16, 17, 18, 19, 20, 21, 22, 23, 24, 25, 26, 27, 28, 29, 30, 31, 32, 33, 34, 35, 36, 37, 38, 39, 40, 41, 42, 56, 57, 58, 59, 60, 61, 62, 63, 64, 65, 66, 67, 68] (by decide +kernel) (by decide +kernel)
set_option maxRecDepth 20000 in
theorem gX8_load_X8_reads : GoodIn wsX8_load (wsV RX8 187 RX8 yX8_reads wsX8_reads) := goodIn_app (goodIn_of _ (by decide +kernel)) ggX8_load_X8_reads
set_option maxRecDepth 20000 in
theorem ggX8_load_X8_changes : GoodIn wsX8_load wsX8_changes := goodIn_r _ [46, 47, 48, 17, 56, 57, 58, 59, 60, 61, 62, 63, 64, 65, 66, 67, 68] (by decide +kernel) (by decide +kernel)
set_option maxRecDepth 20000 in
theorem gX8_load_X8_changes : GoodIn wsX8_load (wsV RX8 40 RX8 yX8_changes wsX8_changes) := goodIn_app (goodIn_of _ (by decide +kernel)) ggX8_load_X8_changes
set_option maxRecDepth 20000 in
theorem ggX8_load_X8_isEntry : GoodIn wsX8_load wsX8_isEntry := goodIn_r _ [22, 4, 3, 23, 24, 25, 9, 26, 1, 2, 27, 28, 29, 30, 31, 32, 33, 34, 56, 57, 58, 59, 60, 61, 62, 63, 64, 65, 66, 67, 68] (by decide +kernel) (by decide +kernel)
set_option maxRecDepth 20000 in
theorem gX8_load_X8_isEntry : GoodIn wsX8_load (wsV RX8 174 RX8 yX8_isEntry wsX8_isEntry) := goodIn_app (goodIn_of _ (by decide +kernel)) ggX8_load_X8_isEntry
set_option maxRecDepth 20000 in
theorem ggX8_load_X8_puts : GoodIn wsX8_load wsX8_puts := goodIn_r _ [52, 17, 53, 54, 9, 55, 56, 57, 58, 59, 60, 61, 62, 63, 64, 65, 66, 67, 68] (by decide +kernel) (by decide +kernel)
set_option maxRecDepth 20000 in
theorem gX8_load_X8_puts : GoodIn wsX8_load (wsV RX8 108 RX8 yX8_puts wsX8_puts) := goodIn_app (goodIn_of _ (by decide +kernel)) ggX8_load_X8_puts
theorem dX8_load_0 : decode cX8_load 0 = .ok (.aload_n 0, 1) := by decide +kernel
theorem dX8_load_1 : decode cX8_load 1 = .ok (.invokevirtual 187, 3) := by decide +kernel
theorem dX8_load_4 : decode cX8_load 4 = .ok (.ifCond .eq 6, 3) := by decide +kernel
theorem dX8_load_7 : decode cX8_load 7 = .ok (.bipush (-2), 2) := by decide +kernel
theorem dX8_load_9 : decode cX8_load 9 = .ok (.ireturn, 1) := by decide +kernel
theorem dX8_load_10 : decode cX8_load 10 = .ok (.aload_n 0, 1) := by decide +kernel
theorem dX8_load_11 : decode cX8_load 11 = .ok (.invokevirtual 40, 3) := by decide +kernel
theorem dX8_load_14 : decode cX8_load 14 = .ok (.aload_n 0, 1) := by decide +kernel
theorem dX8_load_15 : decode cX8_load 15 = .ok (.iconst 0, 1) := by decide +kernel
theorem dX8_load_16 : decode cX8_load 16 = .ok (.putfield 162, 3) := by decide +kernel
theorem dX8_load_19 : decode cX8_load 19 = .ok (.iconst 1, 1) := by decide +kernel
theorem dX8_load_20 : decode cX8_load 20 = .ok (.istore_n 1, 1) := by decide +kernel
theorem dX8_load_21 : decode cX8_load 21 = .ok (.iload_n 1, 1) := by decide +kernel
theorem dX8_load_22 : decode cX8_load 22 = .ok (.ifCond .eq 81, 3) := by decide +kernel
theorem dX8_load_25 : decode cX8_load 25 = .ok (.aload_n 0, 1) := by decide +kernel
theorem dX8_load_26 : decode cX8_load 26 = .ok (.getfield 162, 3) := by decide +kernel
theorem dX8_load_29 : decode cX8_load 29 = .ok (.aload_n 0, 1) := by decide +kernel
theorem dX8_load_30 : decode cX8_load 30 = .ok (.getfield 104, 3) := by decide +kernel
theorem dX8_load_33 : decode cX8_load 33 = .ok (.if_icmp .ge 70, 3) := by decide +kernel
theorem dX8_load_36 : decode cX8_load 36 = .ok (.aload_n 0, 1) := by decide +kernel
theorem dX8_load_37 : decode cX8_load 37 = .ok (.invokevirtual 174, 3) := by decide +kernel
theorem dX8_load_40 : decode cX8_load 40 = .ok (.istore_n 1, 1) := by decide +kernel
theorem dX8_load_41 : decode cX8_load 41 = .ok (.aload_n 0, 1) := by decide +kernel
theorem dX8_load_42 : decode cX8_load 42 = .ok (.aload_n 0, 1) := by decide +kernel
theorem dX8_load_43 : decode cX8_load 43 = .ok (.getfield 28, 3) := by decide +kernel
theorem dX8_load_46 : decode cX8_load 46 = .ok (.iconst 1, 1) := by decide +kernel
theorem dX8_load_47 : decode cX8_load 47 = .ok (.iaload, 1) := by decide +kernel
theorem dX8_load_48 : decode cX8_load 48 = .ok (.aload_n 0, 1) := by decide +kernel
theorem dX8_load_49 : decode cX8_load 49 = .ok (.getfield 168, 3) := by decide +kernel
theorem dX8_load_52 : decode cX8_load 52 = .ok (.aload_n 0, 1) := by decide +kernel
theorem dX8_load_53 : decode cX8_load 53 = .ok (.getfield 28, 3) := by decide +kernel
theorem dX8_load_56 : decode cX8_load 56 = .ok (.iconst 0, 1) := by decide +kernel
theorem dX8_load_57 : decode cX8_load 57 = .ok (.iaload, 1) := by decide +kernel
theorem dX8_load_58 : decode cX8_load 58 = .ok (.aload_n 0, 1) := by decide +kernel
theorem dX8_load_59 : decode cX8_load 59 = .ok (.getfield 168, 3) := by decide +kernel
theorem dX8_load_62 : decode cX8_load 62 = .ok (.ifCond .ne 12, 3) := by decide +kernel
theorem dX8_load_65 : decode cX8_load 65 = .ok (.aload_n 0, 1) := by decide +kernel
theorem dX8_load_66 : decode cX8_load 66 = .ok (.getfield 28, 3) := by decide +kernel
theorem dX8_load_69 : decode cX8_load 69 = .ok (.iconst 2, 1) := by decide +kernel
theorem dX8_load_70 : decode cX8_load 70 = .ok (.iaload, 1) := by decide +kernel
theorem dX8_load_71 : decode cX8_load 71 = .ok (.goto 4, 3) := by decide +kernel
theorem dX8_load_74 : decode cX8_load 74 = .ok (.iconst 0, 1) := by decide +kernel
theorem dX8_load_75 : decode cX8_load 75 = .ok (.aload_n 0, 1) := by decide +kernel
theorem dX8_load_76 : decode cX8_load 76 = .ok (.getfield 168, 3) := by decide +kernel
theorem dX8_load_79 : decode cX8_load 79 = .ok (.ifCond .ne 12, 3) := by decide +kernel
theorem dX8_load_82 : decode cX8_load 82 = .ok (.aload_n 0, 1) := by decide +kernel
theorem dX8_load_83 : decode cX8_load 83 = .ok (.getfield 28, 3) := by decide +kernel
theorem dX8_load_86 : decode cX8_load 86 = .ok (.iconst 3, 1) := by decide +kernel
theorem dX8_load_87 : decode cX8_load 87 = .ok (.iaload, 1) := by decide +kernel
theorem dX8_load_88 : decode cX8_load 88 = .ok (.goto 9, 3) := by decide +kernel
theorem dX8_load_91 : decode cX8_load 91 = .ok (.aload_n 0, 1) := by decide +kernel
theorem dX8_load_92 : decode cX8_load 92 = .ok (.getfield 28, 3) := by decide +kernel
theorem dX8_load_95 : decode cX8_load 95 = .ok (.iconst 2, 1) := by decide +kernel
theorem dX8_load_96 : decode cX8_load 96 = .ok (.iaload, 1) := by decide +kernel
theorem dX8_load_97 : decode cX8_load 97 = .ok (.invokevirtual 108, 3) := by decide +kernel
theorem dX8_load_100 : decode cX8_load 100 = .ok (.goto (-79), 3) := by decide +kernel
theorem dX8_load_103 : decode cX8_load 103 = .ok (.aload_n 0, 1) := by decide +kernel
theorem dX8_load_104 : decode cX8_load 104 = .ok (.getfield 178, 3) := by decide +kernel
theorem dX8_load_107 : decode cX8_load 107 = .ok (.ireturn, 1) := by decide +kernel
theorem dJ9_floorMod_7cf53_0 : decode cJ9_floorMod_7cf53 0 = .ok (.iload_n 0, 1) := by decide +kernel
theorem dJ9_floorMod_7cf53_1 : decode cJ9_floorMod_7cf53 1 = .ok (.iload_n 1, 1) := by decide +kernel
theorem dJ9_floorMod_7cf53_2 : decode cJ9_floorMod_7cf53 2 = .ok (.irem, 1) := by decide +kernel
theorem dJ9_floorMod_7cf53_3 : decode cJ9_floorMod_7cf53 3 = .ok (.istore_n 2, 1) := by decide +kernel
theorem dJ9_floorMod_7cf53_4 : decode cJ9_floorMod_7cf53 4 = .ok (.iload_n 0, 1) := by decide +kernel
theorem dJ9_floorMod_7cf53_5 : decode cJ9_floorMod_7cf53 5 = .ok (.iload_n 1, 1) := by decide +kernel
theorem dJ9_floorMod_7cf53_6 : decode cJ9_floorMod_7cf53 6 = .ok (.ixor, 1) := by decide +kernel
theorem dJ9_floorMod_7cf53_7 : decode cJ9_floorMod_7cf53 7 = .ok (.ifCond .ge 11, 3) := by decide +kernel
theorem dJ9_floorMod_7cf53_10 : decode cJ9_floorMod_7cf53 10 = .ok (.iload_n 2, 1) := by decide +kernel
theorem dJ9_floorMod_7cf53_11 : decode cJ9_floorMod_7cf53 11 = .ok (.ifCond .eq 7, 3) := by decide +kernel
theorem dJ9_floorMod_7cf53_14 : decode cJ9_floorMod_7cf53 14 = .ok (.iload_n 2, 1) := by decide +kernel
theorem dJ9_floorMod_7cf53_15 : decode cJ9_floorMod_7cf53 15 = .ok (.iload_n 1, 1) := by decide +kernel
theorem dJ9_floorMod_7cf53_16 : decode cJ9_floorMod_7cf53 16 = .ok (.iadd, 1) := by decide +kernel
theorem dJ9_floorMod_7cf53_17 : decode cJ9_floorMod_7cf53 17 = .ok (.ireturn, 1) := by decide +kernel
theorem dJ9_floorMod_7cf53_18 : decode cJ9_floorMod_7cf53 18 = .ok (.iload_n 2, 1) := by decide +kernel
theorem dJ9_floorMod_7cf53_19 : decode cJ9_floorMod_7cf53 19 = .ok (.ireturn, 1) := by decide +kernel
theorem dJ9_abs_0f7a4_0 : decode cJ9_abs_0f7a4 0 = .ok (.iload_n 0, 1) := by decide +kernel
theorem dJ9_abs_0f7a4_1 : decode cJ9_abs_0f7a4 1 = .ok (.ifCond .ge 8, 3) := by decide +kernel
theorem dJ9_abs_0f7a4_4 : decode cJ9_abs_0f7a4 4 = .ok (.iload_n 0, 1) := by decide +kernel
theorem dJ9_abs_0f7a4_5 : decode cJ9_abs_0f7a4 5 = .ok (.ineg, 1) := by decide +kernel
theorem dJ9_abs_0f7a4_6 : decode cJ9_abs_0f7a4 6 = .ok (.goto 4, 3) := by decide +kernel
theorem dJ9_abs_0f7a4_9 : decode cJ9_abs_0f7a4 9 = .ok (.iload_n 0, 1) := by decide +kernel
theorem dJ9_abs_0f7a4_10 : decode cJ9_abs_0f7a4 10 = .ok (.ireturn, 1) := by decide +kernel
theorem dJ9_max_7cf53_0 : decode cJ9_max_7cf53 0 = .ok (.iload_n 0, 1) := by decide +kernel
theorem dJ9_max_7cf53_1 : decode cJ9_max_7cf53 1 = .ok (.iload_n 1, 1) := by decide +kernel
theorem dJ9_max_7cf53_2 : decode cJ9_max_7cf53 2 = .ok (.if_icmp .lt 7, 3) := by decide +kernel
theorem dJ9_max_7cf53_5 : decode cJ9_max_7cf53 5 = .ok (.iload_n 0, 1) := by decide +kernel
theorem dJ9_max_7cf53_6 : decode cJ9_max_7cf53 6 = .ok (.goto 4, 3) := by decide +kernel
theorem dJ9_max_7cf53_9 : decode cJ9_max_7cf53 9 = .ok (.iload_n 1, 1) := by decide +kernel
theorem dJ9_max_7cf53_10 : decode cJ9_max_7cf53 10 = .ok (.ireturn, 1) := by decide +kernel
theorem dJ9_min_7cf53_0 : decode cJ9_min_7cf53 0 = .ok (.iload_n 0, 1) := by decide +kernel
theorem dJ9_min_7cf53_1 : decode cJ9_min_7cf53 1 = .ok (.iload_n 1, 1) := by decide +kernel
theorem dJ9_min_7cf53_2 : decode cJ9_min_7cf53 2 = .ok (.if_icmp .gt 7, 3) := by decide +kernel
theorem dJ9_min_7cf53_5 : decode cJ9_min_7cf53 5 = .ok (.iload_n 0, 1) := by decide +kernel
theorem dJ9_min_7cf53_6 : decode cJ9_min_7cf53 6 = .ok (.goto 4, 3) := by decide +kernel
theorem dJ9_min_7cf53_9 : decode cJ9_min_7cf53 9 = .ok (.iload_n 1, 1) := by decide +kernel
theorem dJ9_min_7cf53_10 : decode cJ9_min_7cf53 10 = .ok (.ireturn, 1) := by decide +kernel
set_option maxRecDepth 20000 in
theorem ggL_law_X7_init : GoodIn wsL_law wsX7_init := goodIn_r _ [8, 9, 10, 11, 12, 13, 14, 15, 16, 17, 18, 19, 20, 21, 22, 23, 24, 25, 26, 27, 28, 29, 30, 31, 32, 33, 34, 35, 36, 37, 38, 39, 40, 41, 42, 43, 44, 45, 46, 47, 48, 49, 50, 51, 52, 53, 54, 55, 56, 57, 58, 59, 60, 61, 62, 63, 64, 65, 66, 67, 68, 69, 70, 71, 72, 73, 74, 75, 76, 77, 78, 79, 80, 81, 910, 911, 912, 913, 914, 915, 916, 917, 918, 919, 892, 893, 894, 895, 896, 920, 921, 922, 923, 924, 925, 926, 927, 928, 929, 930, 931, 932, 933, 934, 935, 936, 937, 938, 939, 940, 941, 942, 943, 944, 945, 946, 947, 948, 949, 950, 951] (by decide +kernel) (by decide +kernel)
set_option maxRecDepth 20000 in
theorem gL_law_X7_init : GoodIn wsL_law (wsX7_init) := ggL_law_X7_init
set_option maxRecDepth 20000 in
theorem ggL_law_X8_init : GoodIn wsL_law wsX8_init := goodIn_r _ [84, 85, 10, 11, 41, 86, 87, 88, 89, 90, 91, 92, 93, 897, 898, 899, 900, 901, 902, 903, 904, 905, 906, 907, 908, 909] (by decide +kernel) (by decide +kernel)
set_option maxRecDepth 20000 in
theorem gL_law_X8_init : GoodIn wsL_law (wsX8_init) := ggL_law_X8_init
set_option maxRecDepth 20000 in
theorem ggL_law_X7_room : GoodIn wsL_law wsX7_room := goodIn_r _ [97, 15, 98, 20, 99, 100, 2, 101, 102, 103, 104, 19, 105, 106, 73, 107, 108, 109, 110, 111, 112, 113, 14, 114, 34, 36, 40, 43, 115, 116, 117, 118, 119, 120, 121, 122, 123, 124, 125, 126, 127, 45, 128, 129, 130, 131, 132, 133, 134, 60, 135, 136, 137, 138, 47, 139, 140, 141, 142, 143, 144, 145, 64, 146, 65, 67, 147, 148, 149, 39, 150, 151, 53, 152, 153, 154, 27, 155, 156, 157, 158, 159, 160, 161, 162, 163, 164, 165, 166, 167, 168, 892, 893, 894, 895, 896, 910, 911, 912, 913, 914, 915, 916, 917, 918, 919, 920, 921, 935, 936, 937, 938, 939, 940, 941, 942, 943, 944, 945, 946, 947, 948, 949, 950, 951, 933, 934, 928, 929, 930, 931, 932] (by decide +kernel) (by decide +kernel)
set_option maxRecDepth 20000 in
theorem gL_law_X7_room : GoodIn wsL_law (wsV RL 13 RX7 yX7_room wsX7_room) := goodIn_app (goodIn_of _ (by decide +kernel)) ggL_law_X7_room
set_option maxRecDepth 20000 in
theorem ggL_law_X8_room : GoodIn wsL_law wsX8_room := goodIn_r _ [172, 86, 173, 174, 5, 175, 176, 177, 178, 179, 180, 88, 897, 898, 899, 900, 901, 902, 903, 904, 905, 906, 907, 908, 909] (by decide +kernel) (by decide +kernel)
set_option maxRecDepth 20000 in
theorem gL_law_X8_room : GoodIn wsL_law (wsV RL 17 RX8 yX8_room wsX8_room) := goodIn_app (goodIn_of _ (by decide +kernel)) ggL_law_X8_room
set_option maxRecDepth 20000 in
theorem ggL_law_X7_door : GoodIn wsL_law wsX7_door := goodIn_r _ [184, 15, 185, 20, 186, 187, 188, 14, 189, 119, 34, 190, 191, 192, 2, 193, 99, 100, 101, 194, 195, 196, 197, 36, 198, 199, 200, 201, 202, 203, 47, 204, 140, 64, 102, 103, 104, 19, 105, 106, 73, 107, 108, 109, 110, 111, 112, 113, 114, 40, 43, 115, 116, 117, 118, 120, 121, 122, 123, 124, 125, 126, 127, 45, 128, 129, 130, 131, 132, 133, 134, 60, 135, 136, 137, 138, 139, 141, 142, 143, 144, 145, 146, 65, 67, 147, 148, 149, 39, 150, 151, 53, 152, 153, 154, 27, 155, 156, 157, 158, 159, 160, 205, 206, 207, 208, 209, 210, 211, 212, 892, 893, 894, 895, 896, 910, 911, 912, 913, 914, 915, 916, 917, 918, 919, 942, 943, 944, 945, 946, 947, 948, 949, 950, 951, 935, 936, 937, 938, 939, 940, 941, 920, 921, 933, 934, 928, 929, 930, 931, 932] (by decide +kernel) (by decide +kernel)
set_option maxRecDepth 20000 in
theorem gL_law_X7_door : GoodIn wsL_law (wsV RL 18 RX7 yX7_door wsX7_door) := goodIn_app (goodIn_of _ (by decide +kernel)) ggL_law_X7_door
set_option maxRecDepth 20000 in
theorem ggL_law_X8_door : GoodIn wsL_law wsX8_door := goodIn_r _ [216, 86, 217, 218, 219, 5, 220, 173, 174, 175, 221, 222, 223, 224, 225, 226, 227, 228, 229, 230, 231, 232, 233, 234, 176, 177, 178, 179, 180, 88, 897, 898, 899, 900, 901, 902, 903, 904, 905, 906, 907, 908, 909] (by decide +kernel) (by decide +kernel)
set_option maxRecDepth 20000 in
theorem gL_law_X8_door : GoodIn wsL_law (wsV RL 22 RX8 yX8_door wsX8_door) := goodIn_app (goodIn_of _ (by decide +kernel)) ggL_law_X8_door
set_option maxRecDepth 20000 in
theorem ggL_law_X7_open : GoodIn wsL_law wsX7_open := goodIn_r _ [238, 15, 20, 239, 240, 241, 242, 14, 243, 120, 36, 99, 100, 2, 101, 244, 245, 246, 247, 248, 249, 250, 251, 252, 253, 254, 255, 43, 256, 257, 258, 259, 200, 187, 188, 189, 119, 34, 260, 261, 262, 45, 263, 129, 131, 102, 103, 104, 19, 105, 106, 73, 107, 108, 109, 110, 111, 112, 113, 114, 40, 115, 116, 117, 118, 121, 122, 123, 124, 125, 126, 127, 128, 130, 132, 133, 134, 60, 135, 136, 137, 138, 47, 139, 140, 141, 142, 143, 144, 145, 64, 146, 65, 67, 147, 148, 149, 39, 150, 151, 53, 152, 153, 154, 27, 155, 156, 157, 158, 159, 160, 264, 265, 266, 267, 892, 893, 894, 895, 896, 942, 943, 944, 945, 946, 947, 948, 949, 950, 951, 910, 911, 912, 913, 914, 915, 916, 917, 918, 919, 935, 936, 937, 938, 939, 940, 941, 920, 921, 933, 934, 928, 929, 930, 931, 932] (by decide +kernel) (by decide +kernel)
set_option maxRecDepth 20000 in
theorem gL_law_X7_open : GoodIn wsL_law (wsV RL 23 RX7 yX7_open wsX7_open) := goodIn_app (goodIn_of _ (by decide +kernel)) ggL_law_X7_open
set_option maxRecDepth 20000 in
theorem ggL_law_X8_open : GoodIn wsL_law wsX8_open := goodIn_r _ [271, 86, 272, 273, 274, 5, 275, 173, 174, 175, 276, 277, 278, 279, 229, 230, 231, 280, 281, 282, 283, 232, 233, 234, 176, 177, 178, 179, 180, 88, 897, 898, 899, 900, 901, 902, 903, 904, 905, 906, 907, 908, 909] (by decide +kernel) (by decide +kernel)
set_option maxRecDepth 20000 in
theorem gL_law_X8_open : GoodIn wsL_law (wsV RL 26 RX8 yX8_open wsX8_open) := goodIn_app (goodIn_of _ (by decide +kernel)) ggL_law_X8_open
set_option maxRecDepth 20000 in
theorem ggL_law_X7_refusal : GoodIn wsL_law wsX7_refusal := goodIn_r _ [287, 15, 240, 241, 242, 14, 243, 120, 36, 99, 100, 2, 101, 244, 245, 246, 247, 248, 249, 250, 251, 252, 253, 254, 255, 43, 256, 257, 258, 259, 200, 187, 188, 189, 119, 34, 260, 261, 262, 45, 263, 129, 131, 892, 893, 894, 895, 896, 910, 911, 912, 913, 914, 915, 916, 917, 918, 919, 942, 943, 944, 945, 946, 947, 948, 949, 950, 951, 935, 936, 937, 938, 939, 940, 941] (by decide +kernel) (by decide +kernel)
set_option maxRecDepth 20000 in
theorem gL_law_X7_refusal : GoodIn wsL_law (wsV RL 27 RX7 yX7_refusal wsX7_refusal) := goodIn_app (goodIn_of _ (by decide +kernel)) ggL_law_X7_refusal
set_option maxRecDepth 20000 in
theorem ggL_law_X8_refusal : GoodIn wsL_law wsX8_refusal := goodIn_r _ [291, 272, 273, 274, 5, 275, 86, 173, 174, 175, 276, 277, 278, 279, 229, 230, 231, 280, 281, 282, 283, 232, 233, 234, 897, 898, 899, 900, 901, 902, 903, 904, 905, 906, 907, 908, 909] (by decide +kernel) (by decide +kernel)
set_option maxRecDepth 20000 in
theorem gL_law_X8_refusal : GoodIn wsL_law (wsV RL 30 RX8 yX8_refusal wsX8_refusal) := goodIn_app (goodIn_of _ (by decide +kernel)) ggL_law_X8_refusal
set_option maxRecDepth 20000 in
theorem ggL_law_X7_lock : GoodIn wsL_law wsX7_lock := goodIn_r _ [295, 15, 296, 20, 297, 239, 240, 241, 242, 14, 243, 120, 36, 99, 100, 2, 101, 102, 103, 104, 19, 105, 106, 73, 107, 108, 109, 110, 111, 112, 113, 114, 34, 40, 43, 115, 116, 117, 118, 119, 121, 122, 123, 124, 125, 126, 127, 45, 128, 129, 130, 131, 132, 133, 134, 60, 135, 136, 137, 138, 47, 139, 140, 141, 142, 143, 144, 145, 64, 146, 65, 67, 147, 148, 149, 39, 150, 151, 53, 152, 153, 154, 27, 155, 156, 157, 158, 159, 160, 892, 893, 894, 895, 896, 942, 943, 944, 945, 946, 947, 948, 949, 950, 951, 910, 911, 912, 913, 914, 915, 916, 917, 918, 919, 920, 921, 935, 936, 937, 938, 939, 940, 941, 933, 934, 928, 929, 930, 931, 932] (by decide +kernel) (by decide +kernel)
set_option maxRecDepth 20000 in
theorem gL_law_X7_lock : GoodIn wsL_law (wsV RL 31 RX7 yX7_lock wsX7_lock) := goodIn_app (goodIn_of _ (by decide +kernel)) ggL_law_X7_lock
set_option maxRecDepth 20000 in
theorem ggL_law_X8_lock : GoodIn wsL_law wsX8_lock := goodIn_r _ [301, 86, 272, 273, 274, 5, 275, 173, 174, 175, 176, 177, 178, 179, 180, 88, 897, 898, 899, 900, 901, 902, 903, 904, 905, 906, 907, 908, 909] (by decide +kernel) (by decide +kernel)
set_option maxRecDepth 20000 in
theorem gL_law_X8_lock : GoodIn wsL_law (wsV RL 34 RX8 yX8_lock wsX8_lock) := goodIn_app (goodIn_of _ (by decide +kernel)) ggL_law_X8_lock
set_option maxRecDepth 20000 in
theorem ggL_law_X7_set : GoodIn wsL_law wsX7_set := goodIn_r _ [305, 306, 20, 15, 307, 99, 100, 2, 101, 102, 103, 104, 19, 105, 106, 73, 107, 108, 109, 110, 111, 112, 113, 14, 114, 34, 36, 40, 43, 115, 116, 117, 118, 119, 120, 121, 122, 123, 124, 125, 126, 127, 45, 128, 129, 130, 131, 132, 133, 134, 60, 135, 136, 137, 138, 47, 139, 140, 141, 142, 143, 144, 145, 64, 146, 65, 67, 147, 148, 149, 39, 150, 151, 53, 152, 153, 154, 27, 155, 156, 157, 158, 159, 160, 892, 893, 894, 895, 896, 910, 911, 912, 913, 914, 915, 916, 917, 918, 919, 920, 921, 935, 936, 937, 938, 939, 940, 941, 942, 943, 944, 945, 946, 947, 948, 949, 950, 951, 933, 934, 928, 929, 930, 931, 932] (by decide +kernel) (by decide +kernel)
set_option maxRecDepth 20000 in
theorem gL_law_X7_set : GoodIn wsL_law (wsV RL 35 RX7 yX7_set wsX7_set) := goodIn_app (goodIn_of _ (by decide +kernel)) ggL_law_X7_set
set_option maxRecDepth 20000 in
theorem ggL_law_X8_set : GoodIn wsL_law wsX8_set := goodIn_r _ [311, 93, 86, 173, 174, 5, 175, 176, 177, 178, 179, 180, 88, 897, 898, 899, 900, 901, 902, 903, 904, 905, 906, 907, 908, 909] (by decide +kernel) (by decide +kernel)
set_option maxRecDepth 20000 in
theorem gL_law_X8_set : GoodIn wsL_law (wsV RL 38 RX8 yX8_set wsX8_set) := goodIn_app (goodIn_of _ (by decide +kernel)) ggL_law_X8_set
set_option maxRecDepth 20000 in
theorem ggL_law_X7_roomOf : GoodIn wsL_law wsX7_roomOf := goodIn_r _ [315, 15, 316, 317, 318, 319, 320, 321, 322, 186, 187, 188, 14, 189, 119, 34, 323, 261, 262, 45, 263, 129, 131, 324, 325, 2, 326, 327, 328, 329, 330, 36, 201, 202, 203, 47, 204, 140, 64, 331, 332, 333, 39, 334, 151, 53, 335, 336, 337, 338, 27, 339, 156, 157, 159, 892, 893, 894, 895, 896, 935, 936, 937, 938, 939, 940, 941, 910, 911, 912, 913, 914, 915, 916, 917, 918, 919, 942, 943, 944, 945, 946, 947, 948, 949, 950, 951, 933, 934, 928, 929, 930, 931, 932] (by decide +kernel) (by decide +kernel)
set_option maxRecDepth 20000 in
theorem gL_law_X7_roomOf : GoodIn wsL_law (wsV RL 39 RX7 yX7_roomOf wsX7_roomOf) := goodIn_app (goodIn_of _ (by decide +kernel)) ggL_law_X7_roomOf
set_option maxRecDepth 20000 in
theorem ggL_law_X8_roomOf : GoodIn wsL_law wsX8_roomOf := goodIn_r _ [343, 86, 217, 218, 219, 5, 220, 173, 174, 175, 280, 281, 282, 283, 232, 233, 234, 344, 345, 346, 347, 348, 349, 350, 229, 230, 231, 351, 352, 353, 354, 355, 356, 357, 358, 359, 897, 898, 899, 900, 901, 902, 903, 904, 905, 906, 907, 908, 909] (by decide +kernel) (by decide +kernel)
set_option maxRecDepth 20000 in
theorem gL_law_X8_roomOf : GoodIn wsL_law (wsV RL 42 RX8 yX8_roomOf wsX8_roomOf) := goodIn_app (goodIn_of _ (by decide +kernel)) ggL_law_X8_roomOf
set_option maxRecDepth 20000 in
theorem ggL_law_X7_doorOf : GoodIn wsL_law wsX7_doorOf := goodIn_r _ [363, 15, 364, 365, 366, 367, 297, 239, 296, 368, 240, 241, 242, 14, 243, 120, 36, 369, 370, 371, 47, 372, 67, 373, 374, 375, 376, 250, 200, 187, 188, 189, 119, 34, 377, 378, 379, 45, 380, 129, 131, 381, 382, 383, 892, 893, 894, 895, 896, 942, 943, 944, 945, 946, 947, 948, 949, 950, 951, 910, 911, 912, 913, 914, 915, 916, 917, 918, 919, 935, 936, 937, 938, 939, 940, 941] (by decide +kernel) (by decide +kernel)
set_option maxRecDepth 20000 in
theorem gL_law_X7_doorOf : GoodIn wsL_law (wsV RL 43 RX7 yX7_doorOf wsX7_doorOf) := goodIn_app (goodIn_of _ (by decide +kernel)) ggL_law_X7_doorOf
set_option maxRecDepth 20000 in
theorem ggL_law_X8_doorOf : GoodIn wsL_law wsX8_doorOf := goodIn_r _ [387, 86, 272, 273, 274, 5, 275, 173, 174, 175, 229, 230, 231, 388, 389, 390, 391, 392, 393, 394, 232, 233, 234, 897, 898, 899, 900, 901, 902, 903, 904, 905, 906, 907, 908, 909] (by decide +kernel) (by decide +kernel)
set_option maxRecDepth 20000 in
theorem gL_law_X8_doorOf : GoodIn wsL_law (wsV RL 46 RX8 yX8_doorOf wsX8_doorOf) := goodIn_app (goodIn_of _ (by decide +kernel)) ggL_law_X8_doorOf
set_option maxRecDepth 20000 in
theorem ggL_law_X7_count : GoodIn wsL_law wsX7_count := goodIn_r _ [398, 15, 98, 185, 321, 399, 322, 400, 401, 402, 20, 403, 24, 404, 307, 405, 406, 407, 14, 408, 34, 409, 410, 411, 412, 413, 36, 414, 370, 371, 47, 372, 67, 415, 416, 417, 418, 419, 420, 421, 422, 423, 424, 892, 893, 894, 895, 896, 910, 911, 912, 913, 914, 915, 916, 917, 918, 919, 933, 934, 920, 921, 922, 923, 924, 925, 926, 927, 935, 936, 937, 938, 939, 940, 941, 942, 943, 944, 945, 946, 947, 948, 949, 950, 951] (by decide +kernel) (by decide +kernel)
set_option maxRecDepth 20000 in
theorem gL_law_X7_count : GoodIn wsL_law (wsV RL 47 RX7 yX7_count wsX7_count) := goodIn_app (goodIn_of _ (by decide +kernel)) ggL_law_X7_count
set_option maxRecDepth 20000 in
theorem ggL_law_X8_count : GoodIn wsL_law wsX8_count := goodIn_r _ [428, 86, 180, 429, 430, 431, 5, 432, 232, 233, 234, 433, 434, 435, 388, 389, 390, 897, 898, 899, 900, 901, 902, 903, 904, 905, 906, 907, 908, 909] (by decide +kernel) (by decide +kernel)
set_option maxRecDepth 20000 in
theorem gL_law_X8_count : GoodIn wsL_law (wsV RL 51 RX8 yX8_count wsX8_count) := goodIn_app (goodIn_of _ (by decide +kernel)) ggL_law_X8_count
set_option maxRecDepth 20000 in
theorem ggL_law_X7_undo : GoodIn wsL_law wsX7_undo := goodIn_r _ [439, 20, 403, 15, 440, 441, 442, 19, 443, 106, 73, 111, 112, 113, 14, 114, 34, 36, 40, 43, 115, 116, 117, 118, 119, 120, 121, 122, 123, 124, 125, 126, 127, 45, 128, 129, 130, 131, 132, 133, 134, 60, 135, 136, 137, 138, 47, 139, 140, 141, 142, 143, 144, 145, 64, 146, 65, 67, 147, 148, 149, 39, 150, 151, 53, 152, 153, 154, 27, 155, 156, 157, 158, 159, 160, 892, 893, 894, 895, 896, 920, 921, 910, 911, 912, 913, 914, 915, 916, 917, 918, 919, 935, 936, 937, 938, 939, 940, 941, 942, 943, 944, 945, 946, 947, 948, 949, 950, 951, 933, 934, 928, 929, 930, 931, 932] (by decide +kernel) (by decide +kernel)
set_option maxRecDepth 20000 in
theorem gL_law_X7_undo : GoodIn wsL_law (wsV RL 52 RX7 yX7_undo wsX7_undo) := goodIn_app (goodIn_of _ (by decide +kernel)) ggL_law_X7_undo
set_option maxRecDepth 20000 in
theorem ggL_law_X8_undo : GoodIn wsL_law wsX8_undo := goodIn_r _ [447, 180, 86, 88, 897, 898, 899, 900, 901, 902, 903, 904, 905, 906, 907, 908, 909] (by decide +kernel) (by decide +kernel)
set_option maxRecDepth 20000 in
theorem gL_law_X8_undo : GoodIn wsL_law (wsV RL 56 RX8 yX8_undo wsX8_undo) := goodIn_app (goodIn_of _ (by decide +kernel)) ggL_law_X8_undo
set_option maxRecDepth 20000 in
theorem ggL_law_X7_sound : GoodIn wsL_law wsX7_sound := goodIn_r _ [451, 15, 306, 322, 28, 321, 401, 452, 20, 399, 186, 187, 188, 14, 189, 119, 34, 99, 100, 2, 101, 453, 454, 455, 27, 456, 156, 158, 157, 159, 160, 457, 458, 459, 39, 460, 151, 53, 461, 462, 463, 464, 102, 103, 104, 19, 105, 106, 73, 107, 108, 109, 110, 111, 112, 113, 114, 36, 40, 43, 115, 116, 117, 118, 120, 121, 122, 123, 124, 125, 126, 127, 45, 128, 129, 130, 131, 132, 133, 134, 60, 135, 136, 137, 138, 47, 139, 140, 141, 142, 143, 144, 145, 64, 146, 65, 67, 147, 148, 149, 150, 152, 153, 154, 155, 465, 466, 467, 468, 469, 470, 471, 472, 473, 474, 892, 893, 894, 895, 896, 910, 911, 912, 913, 914, 915, 916, 917, 918, 919, 933, 934, 928, 929, 930, 931, 932, 920, 921, 935, 936, 937, 938, 939, 940, 941, 942, 943, 944, 945, 946, 947, 948, 949, 950, 951] (by decide +kernel) (by decide +kernel)
set_option maxRecDepth 20000 in
theorem gL_law_X7_sound : GoodIn wsL_law (wsV RL 57 RX7 yX7_sound wsX7_sound) := goodIn_app (goodIn_of _ (by decide +kernel)) ggL_law_X7_sound
set_option maxRecDepth 20000 in
theorem ggL_law_X8_sound : GoodIn wsL_law wsX8_sound := goodIn_r _ [478, 93, 86, 479, 217, 218, 219, 5, 220, 173, 174, 175, 176, 177, 178, 179, 180, 88, 480, 481, 482, 483, 357, 358, 359, 897, 898, 899, 900, 901, 902, 903, 904, 905, 906, 907, 908, 909] (by decide +kernel) (by decide +kernel)
set_option maxRecDepth 20000 in
theorem gL_law_X8_sound : GoodIn wsL_law (wsV RL 61 RX8 yX8_sound wsX8_sound) := goodIn_app (goodIn_of _ (by decide +kernel)) ggL_law_X8_sound
set_option maxRecDepth 20000 in
theorem ggL_law_X7_planDoor : GoodIn wsL_law wsX7_planDoor := goodIn_r _ [487, 15, 322, 321, 20, 28, 399, 240, 241, 242, 14, 243, 120, 36, 99, 100, 2, 101, 457, 458, 459, 39, 460, 151, 53, 102, 103, 104, 19, 105, 106, 73, 107, 108, 109, 110, 111, 112, 113, 114, 34, 40, 43, 115, 116, 117, 118, 119, 121, 122, 123, 124, 125, 126, 127, 45, 128, 129, 130, 131, 132, 133, 134, 60, 135, 136, 137, 138, 47, 139, 140, 141, 142, 143, 144, 145, 64, 146, 65, 67, 147, 148, 149, 150, 152, 153, 154, 27, 155, 156, 157, 158, 159, 160, 488, 489, 490, 491, 465, 466, 467, 468, 469, 470, 471, 472, 473, 474, 462, 463, 464, 892, 893, 894, 895, 896, 910, 911, 912, 913, 914, 915, 916, 917, 918, 919, 933, 934, 920, 921, 935, 936, 937, 938, 939, 940, 941, 942, 943, 944, 945, 946, 947, 948, 949, 950, 951, 928, 929, 930, 931, 932] (by decide +kernel) (by decide +kernel)
set_option maxRecDepth 20000 in
theorem gL_law_X7_planDoor : GoodIn wsL_law (wsV RL 62 RX7 yX7_planDoor wsX7_planDoor) := goodIn_app (goodIn_of _ (by decide +kernel)) ggL_law_X7_planDoor
set_option maxRecDepth 20000 in
theorem ggL_law_X8_planDoor : GoodIn wsL_law wsX8_planDoor := goodIn_r _ [495, 86, 272, 273, 274, 5, 275, 173, 174, 175, 176, 177, 178, 179, 180, 88, 480, 481, 482, 483, 357, 358, 359, 897, 898, 899, 900, 901, 902, 903, 904, 905, 906, 907, 908, 909] (by decide +kernel) (by decide +kernel)
set_option maxRecDepth 20000 in
theorem gL_law_X8_planDoor : GoodIn wsL_law (wsV RL 66 RX8 yX8_planDoor wsX8_planDoor) := goodIn_app (goodIn_of _ (by decide +kernel)) ggL_law_X8_planDoor
set_option maxRecDepth 20000 in
theorem ggL_law_X7_cancel : GoodIn wsL_law wsX7_cancel := goodIn_r _ [499, 15, 321, 20, 399, 500, 501, 502, 39, 503, 151, 53, 102, 103, 104, 19, 105, 106, 73, 107, 108, 109, 110, 111, 112, 113, 14, 114, 34, 36, 40, 43, 115, 116, 117, 118, 119, 120, 121, 122, 123, 124, 125, 126, 127, 45, 128, 129, 130, 131, 132, 133, 134, 60, 135, 136, 137, 138, 47, 139, 140, 141, 142, 143, 144, 145, 64, 146, 65, 67, 147, 148, 149, 150, 152, 153, 154, 27, 155, 156, 157, 158, 159, 160, 504, 505, 506, 507, 508, 892, 893, 894, 895, 896, 910, 911, 912, 913, 914, 915, 916, 917, 918, 919, 933, 934, 920, 921, 935, 936, 937, 938, 939, 940, 941, 942, 943, 944, 945, 946, 947, 948, 949, 950, 951, 928, 929, 930, 931, 932] (by decide +kernel) (by decide +kernel)
set_option maxRecDepth 20000 in
theorem gL_law_X7_cancel : GoodIn wsL_law (wsV RL 67 RX7 yX7_cancel wsX7_cancel) := goodIn_app (goodIn_of _ (by decide +kernel)) ggL_law_X7_cancel
set_option maxRecDepth 20000 in
theorem ggL_law_X8_cancel : GoodIn wsL_law wsX8_cancel := goodIn_r _ [512, 86, 173, 174, 5, 175, 176, 177, 178, 179, 180, 88, 513, 514, 515, 897, 898, 899, 900, 901, 902, 903, 904, 905, 906, 907, 908, 909] (by decide +kernel) (by decide +kernel)
set_option maxRecDepth 20000 in
theorem gL_law_X8_cancel : GoodIn wsL_law (wsV RL 70 RX8 yX8_cancel wsX8_cancel) := goodIn_app (goodIn_of _ (by decide +kernel)) ggL_law_X8_cancel
set_option maxRecDepth 20000 in
theorem ggL_law_X7_plan : GoodIn wsL_law wsX7_plan := goodIn_r _ [519, 15, 321, 520, 521, 522, 523, 524, 99, 100, 2, 101, 500, 501, 502, 39, 503, 151, 53, 892, 893, 894, 895, 896, 910, 911, 912, 913, 914, 915, 916, 917, 918, 919, 928, 929, 930, 931, 932, 933, 934] (by decide +kernel) (by decide +kernel)
set_option maxRecDepth 20000 in
theorem gL_law_X7_plan : GoodIn wsL_law (wsV RL 71 RX7 yX7_plan wsX7_plan) := goodIn_app (goodIn_of _ (by decide +kernel)) ggL_law_X7_plan
set_option maxRecDepth 20000 in
theorem ggL_law_X8_plan : GoodIn wsL_law wsX8_plan := goodIn_r _ [528, 86, 173, 174, 5, 175, 357, 358, 359, 897, 898, 899, 900, 901, 902, 903, 904, 905, 906, 907, 908, 909] (by decide +kernel) (by decide +kernel)
set_option maxRecDepth 20000 in
theorem gL_law_X8_plan : GoodIn wsL_law (wsV RL 74 RX8 yX8_plan wsX8_plan) := goodIn_app (goodIn_of _ (by decide +kernel)) ggL_law_X8_plan
set_option maxRecDepth 20000 in
theorem ggL_law_X7_pass : GoodIn wsL_law wsX7_pass := goodIn_r _ [532, 15, 322, 20, 99, 100, 2, 101, 102, 103, 104, 19, 105, 106, 73, 107, 108, 109, 110, 111, 112, 113, 14, 114, 34, 36, 40, 43, 115, 116, 117, 118, 119, 120, 121, 122, 123, 124, 125, 126, 127, 45, 128, 129, 130, 131, 132, 133, 134, 60, 135, 136, 137, 138, 47, 139, 140, 141, 142, 143, 144, 145, 64, 146, 65, 67, 147, 148, 149, 39, 150, 151, 53, 152, 153, 154, 27, 155, 156, 157, 158, 159, 160, 533, 534, 535, 536, 537, 538, 539, 540, 541, 542, 543, 544, 545, 546, 547, 548, 549, 550, 551, 552, 501, 502, 503, 553, 554, 555, 556, 557, 241, 242, 243, 558, 265, 266, 267, 559, 560, 561, 562, 255, 250, 563, 564, 565, 566, 567, 568, 253, 569, 570, 571, 572, 573, 332, 333, 334, 335, 336, 337, 338, 339, 574, 575, 576, 577, 578, 200, 187, 188, 189, 579, 580, 581, 582, 583, 584, 585, 586, 508, 587, 588, 589, 590, 591, 505, 506, 507, 592, 593, 594, 595, 596, 597, 598, 599, 600, 601, 602, 409, 603, 374, 375, 376, 377, 378, 379, 380, 381, 382, 383, 604, 605, 606, 607, 608, 609, 610, 611, 612, 613, 614, 615, 616, 617, 618, 619, 892, 893, 894, 895, 896, 910, 911, 912, 913, 914, 915, 916, 917, 918, 919, 920, 921, 935, 936, 937, 938, 939, 940, 941, 942, 943, 944, 945, 946, 947, 948, 949, 950, 951, 933, 934, 928, 929, 930, 931, 932] (by decide +kernel) (by decide +kernel)
set_option maxRecDepth 20000 in
theorem gL_law_X7_pass : GoodIn wsL_law (wsV RL 75 RX7 yX7_pass wsX7_pass) := goodIn_app (goodIn_of _ (by decide +kernel)) ggL_law_X7_pass
set_option maxRecDepth 20000 in
theorem ggL_law_X8_pass : GoodIn wsL_law wsX8_pass := goodIn_r _ [623, 86, 173, 174, 5, 175, 176, 177, 178, 179, 180, 88, 624, 625, 626, 627, 90, 232, 233, 234, 628, 629, 630, 357, 358, 359, 513, 514, 515, 631, 632, 633, 351, 352, 353, 354, 355, 356, 634, 635, 636, 637, 638, 639, 640, 641, 642, 643, 644, 391, 392, 393, 394, 229, 230, 231, 645, 646, 647, 897, 898, 899, 900, 901, 902, 903, 904, 905, 906, 907, 908, 909] (by decide +kernel) (by decide +kernel)
set_option maxRecDepth 20000 in
theorem gL_law_X8_pass : GoodIn wsL_law (wsV RL 78 RX8 yX8_pass wsX8_pass) := goodIn_app (goodIn_of _ (by decide +kernel)) ggL_law_X8_pass
set_option maxRecDepth 20000 in
theorem ggL_law_X7_way : GoodIn wsL_law wsX7_way := goodIn_r _ [651, 15, 186, 187, 188, 14, 189, 119, 34, 190, 191, 192, 2, 193, 652, 653, 654, 655, 36, 250, 255, 892, 893, 894, 895, 896, 910, 911, 912, 913, 914, 915, 916, 917, 918, 919, 942, 943, 944, 945, 946, 947, 948, 949, 950, 951] (by decide +kernel) (by decide +kernel)
set_option maxRecDepth 20000 in
theorem gL_law_X7_way : GoodIn wsL_law (wsV RL 79 RX7 yX7_way wsX7_way) := goodIn_app (goodIn_of _ (by decide +kernel)) ggL_law_X7_way
set_option maxRecDepth 20000 in
theorem ggL_law_X8_way : GoodIn wsL_law wsX8_way := goodIn_r _ [659, 91, 86, 217, 218, 219, 5, 220, 229, 230, 231, 897, 898, 899, 900, 901, 902, 903, 904, 905, 906, 907, 908, 909] (by decide +kernel) (by decide +kernel)
set_option maxRecDepth 20000 in
theorem gL_law_X8_way : GoodIn wsL_law (wsV RL 82 RX8 yX8_way wsX8_way) := goodIn_app (goodIn_of _ (by decide +kernel)) ggL_law_X8_way
set_option maxRecDepth 20000 in
theorem ggL_law_X7_tail : GoodIn wsL_law wsX7_tail := goodIn_r _ [663, 15, 318, 186, 187, 188, 14, 189, 119, 34, 664, 665, 666, 2, 667, 16, 321, 668, 112, 113, 114, 36, 40, 43, 115, 116, 117, 118, 120, 121, 122, 123, 124, 125, 126, 127, 45, 128, 129, 130, 131, 132, 133, 134, 60, 135, 136, 137, 138, 47, 139, 140, 141, 142, 143, 144, 145, 64, 146, 65, 67, 147, 148, 149, 39, 150, 151, 53, 152, 153, 154, 27, 155, 156, 157, 158, 159, 160, 669, 670, 671, 672, 673, 508, 501, 502, 503, 591, 505, 506, 507, 674, 675, 676, 677, 678, 679, 680, 681, 409, 200, 533, 534, 535, 536, 537, 538, 539, 540, 541, 542, 543, 544, 545, 546, 547, 548, 549, 550, 551, 552, 553, 554, 555, 556, 557, 241, 242, 243, 558, 265, 266, 267, 559, 560, 561, 562, 255, 250, 563, 564, 565, 566, 567, 568, 253, 569, 570, 571, 572, 573, 332, 333, 334, 335, 336, 337, 338, 339, 574, 575, 576, 577, 578, 579, 580, 581, 582, 583, 584, 585, 586, 587, 588, 589, 590, 592, 593, 594, 595, 596, 597, 598, 599, 600, 601, 602, 603, 374, 375, 376, 377, 378, 379, 380, 381, 382, 383, 604, 605, 606, 607, 608, 609, 610, 611, 612, 613, 614, 615, 616, 617, 618, 619, 892, 893, 894, 895, 896, 935, 936, 937, 938, 939, 940, 941, 910, 911, 912, 913, 914, 915, 916, 917, 918, 919, 942, 943, 944, 945, 946, 947, 948, 949, 950, 951, 933, 934, 928, 929, 930, 931, 932] (by decide +kernel) (by decide +kernel)
set_option maxRecDepth 20000 in
theorem gL_law_X7_tail : GoodIn wsL_law (wsV RL 83 RX7 yX7_tail wsX7_tail) := goodIn_app (goodIn_of _ (by decide +kernel)) ggL_law_X7_tail
set_option maxRecDepth 20000 in
theorem ggL_law_X8_tail : GoodIn wsL_law wsX8_tail := goodIn_r _ [685, 86, 217, 218, 219, 5, 220, 232, 233, 234, 686, 687, 688, 689, 690, 691, 692, 693, 87, 357, 358, 359, 513, 514, 515, 694, 695, 696, 697, 624, 625, 626, 627, 90, 628, 629, 630, 631, 632, 633, 351, 352, 353, 354, 355, 356, 173, 174, 175, 634, 635, 636, 637, 638, 639, 640, 641, 642, 643, 644, 391, 392, 393, 394, 229, 230, 231, 645, 646, 647, 897, 898, 899, 900, 901, 902, 903, 904, 905, 906, 907, 908, 909] (by decide +kernel) (by decide +kernel)
set_option maxRecDepth 20000 in
theorem gL_law_X8_tail : GoodIn wsL_law (wsV RL 86 RX8 yX8_tail wsX8_tail) := goodIn_app (goodIn_of _ (by decide +kernel)) ggL_law_X8_tail
set_option maxRecDepth 20000 in
theorem ggL_law_X7_tailWith : GoodIn wsL_law wsX7_tailWith := goodIn_r _ [701, 15, 318, 186, 187, 188, 14, 189, 119, 34, 240, 241, 242, 243, 120, 36, 99, 100, 2, 101, 702, 703, 704, 705, 16, 664, 665, 666, 667, 321, 668, 112, 113, 114, 40, 43, 115, 116, 117, 118, 121, 122, 123, 124, 125, 126, 127, 45, 128, 129, 130, 131, 132, 133, 134, 60, 135, 136, 137, 138, 47, 139, 140, 141, 142, 143, 144, 145, 64, 146, 65, 67, 147, 148, 149, 39, 150, 151, 53, 152, 153, 154, 27, 155, 156, 157, 158, 159, 160, 669, 670, 671, 672, 673, 508, 501, 502, 503, 591, 505, 506, 507, 264, 265, 266, 267, 674, 675, 676, 677, 678, 679, 680, 681, 409, 200, 533, 534, 535, 536, 537, 538, 539, 540, 541, 542, 543, 544, 545, 546, 547, 548, 549, 550, 551, 552, 553, 554, 555, 556, 557, 558, 559, 560, 561, 562, 255, 250, 563, 564, 565, 566, 567, 568, 253, 569, 570, 571, 572, 573, 332, 333, 334, 335, 336, 337, 338, 339, 574, 575, 576, 577, 578, 579, 580, 581, 582, 583, 584, 585, 586, 587, 588, 589, 590, 592, 593, 594, 595, 596, 597, 598, 599, 600, 601, 602, 603, 374, 375, 376, 377, 378, 379, 380, 381, 382, 383, 604, 605, 606, 607, 608, 609, 610, 611, 612, 613, 614, 615, 616, 617, 618, 619, 892, 893, 894, 895, 896, 935, 936, 937, 938, 939, 940, 941, 910, 911, 912, 913, 914, 915, 916, 917, 918, 919, 942, 943, 944, 945, 946, 947, 948, 949, 950, 951, 933, 934, 928, 929, 930, 931, 932] (by decide +kernel) (by decide +kernel)
set_option maxRecDepth 20000 in
theorem gL_law_X7_tailWith : GoodIn wsL_law (wsV RL 87 RX7 yX7_tailWith wsX7_tailWith) := goodIn_app (goodIn_of _ (by decide +kernel)) ggL_law_X7_tailWith
set_option maxRecDepth 20000 in
theorem ggL_law_X8_tailWith : GoodIn wsL_law wsX8_tailWith := goodIn_r _ [709, 86, 217, 218, 219, 5, 220, 272, 273, 274, 275, 173, 174, 175, 232, 233, 234, 710, 711, 712, 713, 87, 690, 691, 692, 693, 357, 358, 359, 513, 514, 515, 694, 695, 696, 697, 624, 625, 626, 627, 90, 628, 629, 630, 631, 632, 633, 351, 352, 353, 354, 355, 356, 634, 635, 636, 637, 638, 639, 640, 641, 642, 643, 644, 391, 392, 393, 394, 229, 230, 231, 645, 646, 647, 897, 898, 899, 900, 901, 902, 903, 904, 905, 906, 907, 908, 909] (by decide +kernel) (by decide +kernel)
set_option maxRecDepth 20000 in
theorem gL_law_X8_tailWith : GoodIn wsL_law (wsV RL 90 RX8 yX8_tailWith wsX8_tailWith) := goodIn_app (goodIn_of _ (by decide +kernel)) ggL_law_X8_tailWith
set_option maxRecDepth 20000 in
theorem ggL_law_X7_bestDoor : GoodIn wsL_law wsX7_bestDoor := goodIn_r _ [717, 15, 318, 185, 186, 187, 188, 14, 189, 119, 34, 99, 100, 2, 101, 664, 665, 666, 667, 16, 321, 668, 112, 113, 114, 36, 40, 43, 115, 116, 117, 118, 120, 121, 122, 123, 124, 125, 126, 127, 45, 128, 129, 130, 131, 132, 133, 134, 60, 135, 136, 137, 138, 47, 139, 140, 141, 142, 143, 144, 145, 64, 146, 65, 67, 147, 148, 149, 39, 150, 151, 53, 152, 153, 154, 27, 155, 156, 157, 158, 159, 160, 669, 670, 671, 672, 673, 508, 501, 502, 503, 591, 505, 506, 507, 674, 675, 676, 677, 678, 679, 680, 681, 409, 200, 533, 534, 535, 536, 537, 538, 539, 540, 541, 542, 543, 544, 545, 546, 547, 548, 549, 550, 551, 552, 553, 554, 555, 556, 557, 241, 242, 243, 558, 265, 266, 267, 559, 560, 561, 562, 255, 250, 563, 564, 565, 566, 567, 568, 253, 569, 570, 571, 572, 573, 332, 333, 334, 335, 336, 337, 338, 339, 574, 575, 576, 577, 578, 579, 580, 581, 582, 583, 584, 585, 586, 587, 588, 589, 590, 592, 593, 594, 595, 596, 597, 598, 599, 600, 601, 602, 603, 374, 375, 376, 377, 378, 379, 380, 381, 382, 383, 604, 605, 606, 607, 608, 609, 610, 611, 612, 613, 614, 615, 616, 617, 618, 619, 718, 719, 720, 721, 248, 249, 702, 703, 704, 705, 240, 264, 892, 893, 894, 895, 896, 935, 936, 937, 938, 939, 940, 941, 910, 911, 912, 913, 914, 915, 916, 917, 918, 919, 942, 943, 944, 945, 946, 947, 948, 949, 950, 951, 933, 934, 928, 929, 930, 931, 932] (by decide +kernel) (by decide +kernel)
set_option maxRecDepth 20000 in
theorem gL_law_X7_bestDoor : GoodIn wsL_law (wsV RL 91 RX7 yX7_bestDoor wsX7_bestDoor) := goodIn_app (goodIn_of _ (by decide +kernel)) ggL_law_X7_bestDoor
set_option maxRecDepth 20000 in
theorem ggL_law_X8_bestDoor : GoodIn wsL_law wsX8_bestDoor := goodIn_r _ [725, 86, 217, 218, 219, 5, 220, 173, 174, 175, 232, 233, 234, 686, 687, 688, 689, 690, 691, 692, 693, 87, 357, 358, 359, 513, 514, 515, 694, 695, 696, 697, 624, 625, 626, 627, 90, 628, 629, 630, 631, 632, 633, 351, 352, 353, 354, 355, 356, 634, 635, 636, 637, 638, 639, 640, 641, 642, 643, 644, 391, 392, 393, 394, 229, 230, 231, 645, 646, 647, 710, 711, 712, 713, 897, 898, 899, 900, 901, 902, 903, 904, 905, 906, 907, 908, 909] (by decide +kernel) (by decide +kernel)
set_option maxRecDepth 20000 in
theorem gL_law_X8_bestDoor : GoodIn wsL_law (wsV RL 94 RX8 yX8_bestDoor wsX8_bestDoor) := goodIn_app (goodIn_of _ (by decide +kernel)) ggL_law_X8_bestDoor
set_option maxRecDepth 20000 in
theorem ggL_law_X7_rise : GoodIn wsL_law wsX7_rise := goodIn_r _ [729, 15, 16, 186, 187, 188, 14, 189, 119, 34, 664, 665, 666, 2, 667, 321, 668, 112, 113, 114, 36, 40, 43, 115, 116, 117, 118, 120, 121, 122, 123, 124, 125, 126, 127, 45, 128, 129, 130, 131, 132, 133, 134, 60, 135, 136, 137, 138, 47, 139, 140, 141, 142, 143, 144, 145, 64, 146, 65, 67, 147, 148, 149, 39, 150, 151, 53, 152, 153, 154, 27, 155, 156, 157, 158, 159, 160, 669, 670, 671, 672, 673, 508, 501, 502, 503, 591, 505, 506, 507, 678, 679, 680, 681, 409, 200, 533, 534, 535, 536, 537, 538, 539, 540, 541, 542, 543, 544, 545, 546, 547, 548, 549, 550, 551, 552, 553, 554, 555, 556, 557, 241, 242, 243, 558, 265, 266, 267, 559, 560, 561, 562, 255, 250, 563, 564, 565, 566, 567, 568, 253, 569, 570, 571, 572, 573, 332, 333, 334, 335, 336, 337, 338, 339, 574, 575, 576, 577, 578, 579, 580, 581, 582, 583, 584, 585, 586, 587, 588, 589, 590, 592, 593, 594, 595, 596, 597, 598, 599, 600, 601, 602, 603, 374, 375, 376, 377, 378, 379, 380, 381, 382, 383, 604, 605, 606, 607, 608, 609, 610, 611, 612, 613, 614, 615, 616, 617, 618, 619, 892, 893, 894, 895, 896, 910, 911, 912, 913, 914, 915, 916, 917, 918, 919, 935, 936, 937, 938, 939, 940, 941, 942, 943, 944, 945, 946, 947, 948, 949, 950, 951, 933, 934, 928, 929, 930, 931, 932] (by decide +kernel) (by decide +kernel)
set_option maxRecDepth 20000 in
theorem gL_law_X7_rise : GoodIn wsL_law (wsV RL 95 RX7 yX7_rise wsX7_rise) := goodIn_app (goodIn_of _ (by decide +kernel)) ggL_law_X7_rise
set_option maxRecDepth 20000 in
theorem ggL_law_X8_rise : GoodIn wsL_law wsX8_rise := goodIn_r _ [733, 87, 217, 218, 219, 5, 220, 86, 690, 691, 692, 693, 357, 358, 359, 513, 514, 515, 232, 233, 234, 624, 625, 626, 627, 90, 628, 629, 630, 631, 632, 633, 351, 352, 353, 354, 355, 356, 173, 174, 175, 634, 635, 636, 637, 638, 639, 640, 641, 642, 643, 644, 391, 392, 393, 394, 229, 230, 231, 645, 646, 647, 897, 898, 899, 900, 901, 902, 903, 904, 905, 906, 907, 908, 909] (by decide +kernel) (by decide +kernel)
set_option maxRecDepth 20000 in
theorem gL_law_X8_rise : GoodIn wsL_law (wsV RL 98 RX8 yX8_rise wsX8_rise) := goodIn_app (goodIn_of _ (by decide +kernel)) ggL_law_X8_rise
set_option maxRecDepth 20000 in
theorem ggL_law_X7_peak : GoodIn wsL_law wsX7_peak := goodIn_r _ [737, 15, 16, 186, 187, 188, 14, 189, 119, 34, 99, 100, 2, 101, 668, 112, 113, 114, 36, 40, 43, 115, 116, 117, 118, 120, 121, 122, 123, 124, 125, 126, 127, 45, 128, 129, 130, 131, 132, 133, 134, 60, 135, 136, 137, 138, 47, 139, 140, 141, 142, 143, 144, 145, 64, 146, 65, 67, 147, 148, 149, 39, 150, 151, 53, 152, 153, 154, 27, 155, 156, 157, 158, 159, 160, 678, 679, 680, 681, 409, 200, 533, 534, 535, 536, 537, 538, 539, 540, 541, 542, 543, 544, 545, 546, 547, 548, 549, 550, 551, 552, 501, 502, 503, 553, 554, 555, 556, 557, 241, 242, 243, 558, 265, 266, 267, 559, 560, 561, 562, 255, 250, 563, 564, 565, 566, 567, 568, 253, 569, 570, 571, 572, 573, 332, 333, 334, 335, 336, 337, 338, 339, 574, 575, 576, 577, 578, 579, 580, 581, 582, 583, 584, 585, 586, 508, 587, 588, 589, 590, 591, 505, 506, 507, 592, 593, 594, 595, 596, 597, 598, 599, 600, 601, 602, 603, 374, 375, 376, 377, 378, 379, 380, 381, 382, 383, 604, 605, 606, 607, 608, 609, 610, 611, 612, 613, 614, 615, 616, 617, 618, 619, 892, 893, 894, 895, 896, 910, 911, 912, 913, 914, 915, 916, 917, 918, 919, 935, 936, 937, 938, 939, 940, 941, 942, 943, 944, 945, 946, 947, 948, 949, 950, 951, 933, 934, 928, 929, 930, 931, 932] (by decide +kernel) (by decide +kernel)
set_option maxRecDepth 20000 in
theorem gL_law_X7_peak : GoodIn wsL_law (wsV RL 99 RX7 yX7_peak wsX7_peak) := goodIn_app (goodIn_of _ (by decide +kernel)) ggL_law_X7_peak
set_option maxRecDepth 20000 in
theorem ggL_law_X8_peak : GoodIn wsL_law wsX8_peak := goodIn_r _ [741, 87, 217, 218, 219, 5, 220, 86, 173, 174, 175, 690, 691, 692, 693, 357, 358, 359, 513, 514, 515, 232, 233, 234, 624, 625, 626, 627, 90, 628, 629, 630, 631, 632, 633, 351, 352, 353, 354, 355, 356, 634, 635, 636, 637, 638, 639, 640, 641, 642, 643, 644, 391, 392, 393, 394, 229, 230, 231, 645, 646, 647, 897, 898, 899, 900, 901, 902, 903, 904, 905, 906, 907, 908, 909] (by decide +kernel) (by decide +kernel)
set_option maxRecDepth 20000 in
theorem gL_law_X8_peak : GoodIn wsL_law (wsV RL 102 RX8 yX8_peak wsX8_peak) := goodIn_app (goodIn_of _ (by decide +kernel)) ggL_law_X8_peak
set_option maxRecDepth 20000 in
theorem ggL_law_X7_quiet : GoodIn wsL_law wsX7_quiet := goodIn_r _ [745, 16, 15, 668, 112, 113, 14, 114, 34, 36, 40, 43, 115, 116, 117, 118, 119, 120, 121, 122, 123, 124, 125, 126, 127, 45, 128, 129, 130, 131, 132, 133, 134, 60, 135, 136, 137, 138, 47, 139, 140, 141, 142, 143, 144, 145, 64, 146, 65, 67, 147, 148, 149, 39, 150, 151, 53, 152, 153, 154, 27, 155, 156, 157, 158, 159, 160, 746, 747, 748, 749, 750, 406, 407, 408, 409, 751, 411, 412, 413, 414, 370, 371, 372, 752, 753, 754, 755, 673, 533, 534, 535, 536, 537, 538, 539, 540, 541, 542, 543, 544, 545, 546, 547, 548, 549, 550, 551, 552, 501, 502, 503, 553, 554, 555, 556, 557, 241, 242, 243, 558, 265, 266, 267, 559, 560, 561, 562, 255, 250, 563, 564, 565, 566, 567, 568, 253, 569, 570, 571, 572, 573, 332, 333, 334, 335, 336, 337, 338, 339, 574, 575, 576, 577, 578, 200, 187, 188, 189, 579, 580, 581, 582, 583, 584, 585, 586, 508, 587, 588, 589, 590, 591, 505, 506, 507, 592, 593, 594, 595, 596, 597, 598, 599, 600, 601, 602, 603, 374, 375, 376, 377, 378, 379, 380, 381, 382, 383, 604, 605, 606, 607, 608, 609, 610, 611, 612, 613, 614, 615, 616, 617, 618, 619, 892, 893, 894, 895, 896, 910, 911, 912, 913, 914, 915, 916, 917, 918, 919, 935, 936, 937, 938, 939, 940, 941, 942, 943, 944, 945, 946, 947, 948, 949, 950, 951, 933, 934, 928, 929, 930, 931, 932] (by decide +kernel) (by decide +kernel)
set_option maxRecDepth 20000 in
theorem gL_law_X7_quiet : GoodIn wsL_law (wsV RL 103 RX7 yX7_quiet wsX7_quiet) := goodIn_app (goodIn_of _ (by decide +kernel)) ggL_law_X7_quiet
set_option maxRecDepth 20000 in
theorem ggL_law_X8_quiet : GoodIn wsL_law wsX8_quiet := goodIn_r _ [759, 87, 690, 691, 692, 5, 693, 86, 357, 358, 359, 513, 514, 515, 430, 431, 432, 232, 233, 234, 433, 434, 435, 388, 389, 390, 760, 761, 762, 624, 625, 626, 627, 90, 628, 629, 630, 631, 632, 633, 351, 352, 353, 354, 355, 356, 173, 174, 175, 634, 635, 636, 637, 638, 639, 640, 641, 642, 643, 644, 391, 392, 393, 394, 229, 230, 231, 645, 646, 647, 897, 898, 899, 900, 901, 902, 903, 904, 905, 906, 907, 908, 909] (by decide +kernel) (by decide +kernel)
set_option maxRecDepth 20000 in
theorem gL_law_X8_quiet : GoodIn wsL_law (wsV RL 106 RX8 yX8_quiet wsX8_quiet) := goodIn_app (goodIn_of _ (by decide +kernel)) ggL_law_X8_quiet
set_option maxRecDepth 20000 in
theorem ggL_law_X7_fell : GoodIn wsL_law wsX7_fell := goodIn_r _ [766, 15, 322, 767, 318, 186, 187, 188, 14, 189, 119, 34, 99, 100, 2, 101, 768, 769, 770, 45, 771, 60, 541, 542, 543, 544, 324, 325, 326, 892, 893, 894, 895, 896, 910, 911, 912, 913, 914, 915, 916, 917, 918, 919, 935, 936, 937, 938, 939, 940, 941] (by decide +kernel) (by decide +kernel)
set_option maxRecDepth 20000 in
theorem gL_law_X7_fell : GoodIn wsL_law (wsV RL 107 RX7 yX7_fell wsX7_fell) := goodIn_app (goodIn_of _ (by decide +kernel)) ggL_law_X7_fell
set_option maxRecDepth 20000 in
theorem ggL_law_X8_fell : GoodIn wsL_law wsX8_fell := goodIn_r _ [775, 86, 217, 218, 219, 5, 220, 173, 174, 175, 232, 233, 234, 344, 345, 346, 897, 898, 899, 900, 901, 902, 903, 904, 905, 906, 907, 908, 909] (by decide +kernel) (by decide +kernel)
set_option maxRecDepth 20000 in
theorem gL_law_X8_fell : GoodIn wsL_law (wsV RL 110 RX8 yX8_fell wsX8_fell) := goodIn_app (goodIn_of _ (by decide +kernel)) ggL_law_X8_fell
set_option maxRecDepth 20000 in
theorem ggL_law_X7_type : GoodIn wsL_law wsX7_type := goodIn_r _ [779, 24, 404, 99, 100, 2, 101, 780, 781, 782, 23, 783, 784, 79, 892, 893, 894, 895, 896, 922, 923, 924, 925, 926, 927] (by decide +kernel) (by decide +kernel)
set_option maxRecDepth 20000 in
theorem gL_law_X7_type : GoodIn wsL_law (wsV RL 111 RX7 yX7_type wsX7_type) := goodIn_app (goodIn_of _ (by decide +kernel)) ggL_law_X7_type
set_option maxRecDepth 20000 in
theorem ggL_law_X8_type : GoodIn wsL_law wsX8_type := goodIn_r _ [788, 429, 89, 173, 174, 5, 175, 897, 898, 899, 900, 901, 902, 903, 904, 905, 906, 907, 908, 909] (by decide +kernel) (by decide +kernel)
set_option maxRecDepth 20000 in
theorem gL_law_X8_type : GoodIn wsL_law (wsV RL 114 RX8 yX8_type wsX8_type) := goodIn_app (goodIn_of _ (by decide +kernel)) ggL_law_X8_type
set_option maxRecDepth 20000 in
theorem ggL_law_X7_clearText : GoodIn wsL_law wsX7_clearText := goodIn_r _ [792, 24, 404, 892, 893, 894, 895, 896, 922, 923, 924, 925, 926, 927] (by decide +kernel) (by decide +kernel)
set_option maxRecDepth 20000 in
theorem gL_law_X7_clearText : GoodIn wsL_law (wsV RL 115 RX7 yX7_clearText wsX7_clearText) := goodIn_app (goodIn_of _ (by decide +kernel)) ggL_law_X7_clearText
set_option maxRecDepth 20000 in
theorem ggL_law_X8_clearText : GoodIn wsL_law wsX8_clearText := goodIn_r _ [796, 429, 897, 898, 899, 900, 901, 902, 903, 904, 905, 906, 907, 908, 909] (by decide +kernel) (by decide +kernel)
set_option maxRecDepth 20000 in
theorem gL_law_X8_clearText : GoodIn wsL_law (wsV RL 118 RX8 yX8_clearText wsX8_clearText) := goodIn_app (goodIn_of _ (by decide +kernel)) ggL_law_X8_clearText
set_option maxRecDepth 20000 in
theorem ggL_law_X7_fault : GoodIn wsL_law wsX7_fault := goodIn_r _ [800, 24, 15, 801, 802, 99, 100, 2, 101, 803, 804, 805, 23, 806, 807, 808, 784, 809, 81, 810, 811, 812, 813, 814, 815, 816, 817, 79, 818, 819, 820, 821, 822, 823, 824, 825, 826, 571, 253, 572, 827, 454, 455, 27, 456, 156, 158, 157, 159, 160, 828, 829, 830, 831, 832, 489, 490, 491, 833, 834, 835, 836, 837, 838, 839, 840, 841, 842, 843, 844, 845, 846, 847, 848, 187, 188, 14, 189, 119, 34, 849, 241, 242, 243, 120, 36, 850, 462, 463, 464, 892, 893, 894, 895, 896, 922, 923, 924, 925, 926, 927, 928, 929, 930, 931, 932, 910, 911, 912, 913, 914, 915, 916, 917, 918, 919, 933, 934] (by decide +kernel) (by decide +kernel)
set_option maxRecDepth 20000 in
theorem gL_law_X7_fault : GoodIn wsL_law (wsV RL 119 RX7 yX7_fault wsX7_fault) := goodIn_app (goodIn_of _ (by decide +kernel)) ggL_law_X7_fault
set_option maxRecDepth 20000 in
theorem ggL_law_X8_fault : GoodIn wsL_law wsX8_fault := goodIn_r _ [854, 855, 173, 174, 5, 175, 856, 857, 858, 859, 860, 861, 429, 862, 92, 863, 864, 865, 866, 93, 86, 479, 867, 868, 869, 870, 871, 872, 873, 874, 89, 875, 876, 877, 878, 217, 218, 219, 220, 272, 273, 274, 275, 897, 898, 899, 900, 901, 902, 903, 904, 905, 906, 907, 908, 909] (by decide +kernel) (by decide +kernel)
set_option maxRecDepth 20000 in
theorem gL_law_X8_fault : GoodIn wsL_law (wsV RL 122 RX8 yX8_fault wsX8_fault) := goodIn_app (goodIn_of _ (by decide +kernel)) ggL_law_X8_fault
set_option maxRecDepth 20000 in
theorem ggL_law_X7_load : GoodIn wsL_law wsX7_load := goodIn_r _ [882, 24, 15, 801, 20, 803, 804, 805, 23, 806, 807, 808, 784, 809, 81, 810, 811, 812, 813, 814, 815, 816, 817, 79, 818, 819, 820, 821, 822, 823, 824, 825, 826, 571, 253, 572, 827, 454, 455, 27, 456, 156, 158, 157, 159, 160, 828, 829, 830, 831, 832, 489, 490, 491, 833, 834, 835, 836, 837, 838, 839, 840, 841, 842, 843, 844, 845, 846, 847, 848, 187, 188, 14, 189, 119, 34, 849, 241, 242, 243, 120, 36, 100, 2, 101, 850, 462, 463, 464, 102, 103, 104, 19, 105, 106, 73, 107, 108, 109, 110, 111, 112, 113, 114, 40, 43, 115, 116, 117, 118, 121, 122, 123, 124, 125, 126, 127, 45, 128, 129, 130, 131, 132, 133, 134, 60, 135, 136, 137, 138, 47, 139, 140, 141, 142, 143, 144, 145, 64, 146, 65, 67, 147, 148, 149, 39, 150, 151, 53, 152, 153, 154, 155, 883, 884, 885, 886, 887, 466, 467, 468, 469, 470, 471, 472, 473, 474, 892, 893, 894, 895, 896, 922, 923, 924, 925, 926, 927, 928, 929, 930, 931, 932, 910, 911, 912, 913, 914, 915, 916, 917, 918, 919, 933, 934, 920, 921, 935, 936, 937, 938, 939, 940, 941, 942, 943, 944, 945, 946, 947, 948, 949, 950, 951] (by decide +kernel) (by decide +kernel)
set_option maxRecDepth 20000 in
theorem gL_law_X7_load : GoodIn wsL_law (wsV RL 123 RX7 yX7_load wsX7_load) := goodIn_app (goodIn_of _ (by decide +kernel)) ggL_law_X7_load
set_option maxRecDepth 20000 in
theorem ggL_law_X8_load : GoodIn wsL_law wsX8_load := goodIn_r _ [891, 860, 429, 92, 862, 861, 856, 857, 858, 5, 859, 855, 863, 864, 865, 866, 93, 86, 479, 867, 868, 869, 870, 871, 872, 873, 874, 89, 875, 876, 877, 878, 173, 174, 175, 217, 218, 219, 220, 272, 273, 274, 275, 176, 177, 178, 179, 180, 88, 480, 481, 482, 483, 357, 358, 359, 897, 898, 899, 900, 901, 902, 903, 904, 905, 906, 907, 908, 909] (by decide +kernel) (by decide +kernel)
set_option maxRecDepth 20000 in
theorem gL_law_X8_load : GoodIn wsL_law (wsV RL 126 RX8 yX8_load wsX8_load) := goodIn_app (goodIn_of _ (by decide +kernel)) ggL_law_X8_load
theorem dL_law_0 : decode cL_law 0 = .ok (.new 7, 3) := by decide +kernel
theorem dL_law_3 : decode cL_law 3 = .ok (.dup, 1) := by decide +kernel
theorem dL_law_4 : decode cL_law 4 = .ok (.invokespecial 9, 3) := by decide +kernel
theorem dL_law_7 : decode cL_law 7 = .ok (.astore_n 1, 1) := by decide +kernel
theorem dL_law_8 : decode cL_law 8 = .ok (.new 10, 3) := by decide +kernel
theorem dL_law_11 : decode cL_law 11 = .ok (.dup, 1) := by decide +kernel
theorem dL_law_12 : decode cL_law 12 = .ok (.invokespecial 12, 3) := by decide +kernel
theorem dL_law_15 : decode cL_law 15 = .ok (.astore_n 2, 1) := by decide +kernel
theorem dL_law_16 : decode cL_law 16 = .ok (.iconst 0, 1) := by decide +kernel
theorem dL_law_17 : decode cL_law 17 = .ok (.istore_n 3, 1) := by decide +kernel
theorem dL_law_18 : decode cL_law 18 = .ok (.iload_n 3, 1) := by decide +kernel
theorem dL_law_19 : decode cL_law 19 = .ok (.aload_n 0, 1) := by decide +kernel
