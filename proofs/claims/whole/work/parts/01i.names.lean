theorem dX8_reasonOf_22 : decode cX8_reasonOf 22 = .ok (.iload_n 3, 1) := by decide +kernel
theorem dX8_reasonOf_23 : decode cX8_reasonOf 23 = .ok (.ifCond .eq 19, 3) := by decide +kernel
theorem dX8_reasonOf_26 : decode cX8_reasonOf 26 = .ok (.aload_n 0, 1) := by decide +kernel
theorem dX8_reasonOf_27 : decode cX8_reasonOf 27 = .ok (.aload_n 0, 1) := by decide +kernel
theorem dX8_reasonOf_28 : decode cX8_reasonOf 28 = .ok (.getfield 28, 3) := by decide +kernel
theorem dX8_reasonOf_31 : decode cX8_reasonOf 31 = .ok (.iconst 0, 1) := by decide +kernel
theorem dX8_reasonOf_32 : decode cX8_reasonOf 32 = .ok (.iaload, 1) := by decide +kernel
theorem dX8_reasonOf_33 : decode cX8_reasonOf 33 = .ok (.invokevirtual 54, 3) := by decide +kernel
theorem dX8_reasonOf_36 : decode cX8_reasonOf 36 = .ok (.ifCond .ne 21, 3) := by decide +kernel
theorem dX8_reasonOf_39 : decode cX8_reasonOf 39 = .ok (.goto 16, 3) := by decide +kernel
theorem dX8_reasonOf_42 : decode cX8_reasonOf 42 = .ok (.aload_n 0, 1) := by decide +kernel
theorem dX8_reasonOf_43 : decode cX8_reasonOf 43 = .ok (.aload_n 0, 1) := by decide +kernel
theorem dX8_reasonOf_44 : decode cX8_reasonOf 44 = .ok (.getfield 28, 3) := by decide +kernel
theorem dX8_reasonOf_47 : decode cX8_reasonOf 47 = .ok (.iconst 0, 1) := by decide +kernel
theorem dX8_reasonOf_48 : decode cX8_reasonOf 48 = .ok (.iaload, 1) := by decide +kernel
theorem dX8_reasonOf_49 : decode cX8_reasonOf 49 = .ok (.invokevirtual 65, 3) := by decide +kernel
theorem dX8_reasonOf_52 : decode cX8_reasonOf 52 = .ok (.ifCond .ne 5, 3) := by decide +kernel
theorem dX8_reasonOf_55 : decode cX8_reasonOf 55 = .ok (.iconst 2, 1) := by decide +kernel
theorem dX8_reasonOf_56 : decode cX8_reasonOf 56 = .ok (.ireturn, 1) := by decide +kernel
theorem dX8_reasonOf_57 : decode cX8_reasonOf 57 = .ok (.aload_n 0, 1) := by decide +kernel
theorem dX8_reasonOf_58 : decode cX8_reasonOf 58 = .ok (.getfield 28, 3) := by decide +kernel
theorem dX8_reasonOf_61 : decode cX8_reasonOf 61 = .ok (.iconst 1, 1) := by decide +kernel
theorem dX8_reasonOf_62 : decode cX8_reasonOf 62 = .ok (.iaload, 1) := by decide +kernel
theorem dX8_reasonOf_63 : decode cX8_reasonOf 63 = .ok (.sipush 5000, 3) := by decide +kernel
theorem dX8_reasonOf_66 : decode cX8_reasonOf 66 = .ok (.if_icmp .gt 51, 3) := by decide +kernel
theorem dX8_reasonOf_69 : decode cX8_reasonOf 69 = .ok (.iload_n 3, 1) := by decide +kernel
theorem dX8_reasonOf_70 : decode cX8_reasonOf 70 = .ok (.ifCond .eq 36, 3) := by decide +kernel
theorem dX8_reasonOf_73 : decode cX8_reasonOf 73 = .ok (.aload_n 0, 1) := by decide +kernel
theorem dX8_reasonOf_74 : decode cX8_reasonOf 74 = .ok (.getfield 28, 3) := by decide +kernel
theorem dX8_reasonOf_77 : decode cX8_reasonOf 77 = .ok (.iconst 2, 1) := by decide +kernel
theorem dX8_reasonOf_78 : decode cX8_reasonOf 78 = .ok (.iaload, 1) := by decide +kernel
theorem dX8_reasonOf_79 : decode cX8_reasonOf 79 = .ok (.iconst 1, 1) := by decide +kernel
theorem dX8_reasonOf_80 : decode cX8_reasonOf 80 = .ok (.bipush 20, 2) := by decide +kernel
theorem dX8_reasonOf_82 : decode cX8_reasonOf 82 = .ok (.invokestatic 36, 3) := by decide +kernel
theorem dX8_reasonOf_85 : decode cX8_reasonOf 85 = .ok (.ifCond .eq 32, 3) := by decide +kernel
theorem dX8_reasonOf_88 : decode cX8_reasonOf 88 = .ok (.aload_n 0, 1) := by decide +kernel
theorem dX8_reasonOf_89 : decode cX8_reasonOf 89 = .ok (.getfield 28, 3) := by decide +kernel
theorem dX8_reasonOf_92 : decode cX8_reasonOf 92 = .ok (.iconst 3, 1) := by decide +kernel
theorem dX8_reasonOf_93 : decode cX8_reasonOf 93 = .ok (.iaload, 1) := by decide +kernel
theorem dX8_reasonOf_94 : decode cX8_reasonOf 94 = .ok (.iconst 1, 1) := by decide +kernel
theorem dX8_reasonOf_95 : decode cX8_reasonOf 95 = .ok (.ldc 31, 2) := by decide +kernel
theorem dX8_reasonOf_97 : decode cX8_reasonOf 97 = .ok (.invokestatic 36, 3) := by decide +kernel
theorem dX8_reasonOf_100 : decode cX8_reasonOf 100 = .ok (.ifCond .ne 19, 3) := by decide +kernel
theorem dX8_reasonOf_103 : decode cX8_reasonOf 103 = .ok (.goto 14, 3) := by decide +kernel
theorem dX8_reasonOf_106 : decode cX8_reasonOf 106 = .ok (.aload_n 0, 1) := by decide +kernel
theorem dX8_reasonOf_107 : decode cX8_reasonOf 107 = .ok (.getfield 28, 3) := by decide +kernel
theorem dX8_reasonOf_110 : decode cX8_reasonOf 110 = .ok (.iconst 2, 1) := by decide +kernel
theorem dX8_reasonOf_111 : decode cX8_reasonOf 111 = .ok (.iaload, 1) := by decide +kernel
theorem dX8_reasonOf_112 : decode cX8_reasonOf 112 = .ok (.bipush 10, 2) := by decide +kernel
theorem dX8_reasonOf_114 : decode cX8_reasonOf 114 = .ok (.if_icmp .le 5, 3) := by decide +kernel
theorem dX8_reasonOf_117 : decode cX8_reasonOf 117 = .ok (.iconst 3, 1) := by decide +kernel
theorem dX8_reasonOf_118 : decode cX8_reasonOf 118 = .ok (.ireturn, 1) := by decide +kernel
theorem dX8_reasonOf_119 : decode cX8_reasonOf 119 = .ok (.aload_n 0, 1) := by decide +kernel
theorem dX8_reasonOf_120 : decode cX8_reasonOf 120 = .ok (.getfield 28, 3) := by decide +kernel
theorem dX8_reasonOf_123 : decode cX8_reasonOf 123 = .ok (.iconst 1, 1) := by decide +kernel
theorem dX8_reasonOf_124 : decode cX8_reasonOf 124 = .ok (.iaload, 1) := by decide +kernel
theorem dX8_reasonOf_125 : decode cX8_reasonOf 125 = .ok (.aload_n 0, 1) := by decide +kernel
theorem dX8_reasonOf_126 : decode cX8_reasonOf 126 = .ok (.getfield 7, 3) := by decide +kernel
theorem dX8_reasonOf_129 : decode cX8_reasonOf 129 = .ok (.iconst 3, 1) := by decide +kernel
theorem dX8_reasonOf_130 : decode cX8_reasonOf 130 = .ok (.iaload, 1) := by decide +kernel
theorem dX8_reasonOf_131 : decode cX8_reasonOf 131 = .ok (.if_icmp .ge 5, 3) := by decide +kernel
theorem dX8_reasonOf_134 : decode cX8_reasonOf 134 = .ok (.iconst 4, 1) := by decide +kernel
theorem dX8_reasonOf_135 : decode cX8_reasonOf 135 = .ok (.ireturn, 1) := by decide +kernel
theorem dX8_reasonOf_136 : decode cX8_reasonOf 136 = .ok (.aload_n 0, 1) := by decide +kernel
theorem dX8_reasonOf_137 : decode cX8_reasonOf 137 = .ok (.getfield 7, 3) := by decide +kernel
theorem dX8_reasonOf_140 : decode cX8_reasonOf 140 = .ok (.iconst 2, 1) := by decide +kernel
theorem dX8_reasonOf_141 : decode cX8_reasonOf 141 = .ok (.iaload, 1) := by decide +kernel
theorem dX8_reasonOf_142 : decode cX8_reasonOf 142 = .ok (.iload_n 1, 1) := by decide +kernel
theorem dX8_reasonOf_143 : decode cX8_reasonOf 143 = .ok (.iadd, 1) := by decide +kernel
theorem dX8_reasonOf_144 : decode cX8_reasonOf 144 = .ok (.bipush 16, 2) := by decide +kernel
theorem dX8_reasonOf_146 : decode cX8_reasonOf 146 = .ok (.if_icmp .ne 7, 3) := by decide +kernel
theorem dX8_reasonOf_149 : decode cX8_reasonOf 149 = .ok (.iconst 5, 1) := by decide +kernel
theorem dX8_reasonOf_150 : decode cX8_reasonOf 150 = .ok (.goto 40, 3) := by decide +kernel
theorem dX8_reasonOf_153 : decode cX8_reasonOf 153 = .ok (.iload_n 3, 1) := by decide +kernel
theorem dX8_reasonOf_154 : decode cX8_reasonOf 154 = .ok (.ifCond .eq 35, 3) := by decide +kernel
theorem dX8_reasonOf_157 : decode cX8_reasonOf 157 = .ok (.aload_n 0, 1) := by decide +kernel
theorem dX8_reasonOf_158 : decode cX8_reasonOf 158 = .ok (.getfield 7, 3) := by decide +kernel
theorem dX8_reasonOf_161 : decode cX8_reasonOf 161 = .ok (.iconst 5, 1) := by decide +kernel
theorem dX8_reasonOf_162 : decode cX8_reasonOf 162 = .ok (.iaload, 1) := by decide +kernel
theorem dX8_reasonOf_163 : decode cX8_reasonOf 163 = .ok (.iload_n 2, 1) := by decide +kernel
theorem dX8_reasonOf_164 : decode cX8_reasonOf 164 = .ok (.iadd, 1) := by decide +kernel
theorem dX8_reasonOf_165 : decode cX8_reasonOf 165 = .ok (.aload_n 0, 1) := by decide +kernel
theorem dX8_reasonOf_166 : decode cX8_reasonOf 166 = .ok (.getfield 28, 3) := by decide +kernel
theorem dX8_reasonOf_169 : decode cX8_reasonOf 169 = .ok (.iconst 2, 1) := by decide +kernel
theorem dX8_reasonOf_170 : decode cX8_reasonOf 170 = .ok (.iaload, 1) := by decide +kernel
theorem dX8_reasonOf_171 : decode cX8_reasonOf 171 = .ok (.aload_n 0, 1) := by decide +kernel
theorem dX8_reasonOf_172 : decode cX8_reasonOf 172 = .ok (.getfield 28, 3) := by decide +kernel
theorem dX8_reasonOf_175 : decode cX8_reasonOf 175 = .ok (.iconst 3, 1) := by decide +kernel
theorem dX8_reasonOf_176 : decode cX8_reasonOf 176 = .ok (.iaload, 1) := by decide +kernel
theorem dX8_reasonOf_177 : decode cX8_reasonOf 177 = .ok (.imul, 1) := by decide +kernel
theorem dX8_reasonOf_178 : decode cX8_reasonOf 178 = .ok (.iadd, 1) := by decide +kernel
theorem dX8_reasonOf_179 : decode cX8_reasonOf 179 = .ok (.ldc 107, 2) := by decide +kernel
theorem dX8_reasonOf_181 : decode cX8_reasonOf 181 = .ok (.if_icmp .le 8, 3) := by decide +kernel
theorem dX8_reasonOf_184 : decode cX8_reasonOf 184 = .ok (.bipush 6, 2) := by decide +kernel
theorem dX8_reasonOf_186 : decode cX8_reasonOf 186 = .ok (.goto 4, 3) := by decide +kernel
theorem dX8_reasonOf_189 : decode cX8_reasonOf 189 = .ok (.iconst 0, 1) := by decide +kernel
theorem dX8_reasonOf_190 : decode cX8_reasonOf 190 = .ok (.ireturn, 1) := by decide +kernel
set_option maxRecDepth 20000 in
theorem ggX8_reads_X8_reasonOf : GoodIn wsX8_reads wsX8_reasonOf := goodIn_r _ [11, 5, 6, 12, 13, 14, 15, 16, 17, 10, 18, 19, 20, 21, 22, 1, 3, 23, 24, 25, 26, 27, 28, 29, 30, 31, 32, 33, 34, 35, 36, 37, 38, 39, 40, 41, 42, 43, 44, 45, 46, 47, 48, 49, 50, 51] (by decide +kernel) (by decide +kernel)
set_option maxRecDepth 20000 in
theorem gX8_reads_X8_reasonOf : GoodIn wsX8_reads (wsV RX8 184 RX8 yX8_reasonOf wsX8_reasonOf) := goodIn_app (goodIn_of _ (by decide +kernel)) ggX8_reads_X8_reasonOf
theorem dX8_reads_0 : decode cX8_reads 0 = .ok (.aload_n 0, 1) := by decide +kernel
theorem dX8_reads_1 : decode cX8_reads 1 = .ok (.iconst 0, 1) := by decide +kernel
theorem dX8_reads_2 : decode cX8_reads 2 = .ok (.putfield 162, 3) := by decide +kernel
theorem dX8_reads_5 : decode cX8_reads 5 = .ok (.aload_n 0, 1) := by decide +kernel
theorem dX8_reads_6 : decode cX8_reads 6 = .ok (.iconst 0, 1) := by decide +kernel
theorem dX8_reads_7 : decode cX8_reads 7 = .ok (.putfield 178, 3) := by decide +kernel
theorem dX8_reads_10 : decode cX8_reads 10 = .ok (.iconst 0, 1) := by decide +kernel
theorem dX8_reads_11 : decode cX8_reads 11 = .ok (.istore_n 1, 1) := by decide +kernel
theorem dX8_reads_12 : decode cX8_reads 12 = .ok (.aload_n 0, 1) := by decide +kernel
theorem dX8_reads_13 : decode cX8_reads 13 = .ok (.getfield 162, 3) := by decide +kernel
theorem dX8_reads_16 : decode cX8_reads 16 = .ok (.aload_n 0, 1) := by decide +kernel
theorem dX8_reads_17 : decode cX8_reads 17 = .ok (.getfield 104, 3) := by decide +kernel
theorem dX8_reads_20 : decode cX8_reads 20 = .ok (.if_icmp .ge 67, 3) := by decide +kernel
theorem dX8_reads_23 : decode cX8_reads 23 = .ok (.aload_n 0, 1) := by decide +kernel
theorem dX8_reads_24 : decode cX8_reads 24 = .ok (.aload_n 0, 1) := by decide +kernel
theorem dX8_reads_25 : decode cX8_reads 25 = .ok (.getfield 162, 3) := by decide +kernel
theorem dX8_reads_28 : decode cX8_reads 28 = .ok (.putfield 181, 3) := by decide +kernel
theorem dX8_reads_31 : decode cX8_reads 31 = .ok (.aload_n 0, 1) := by decide +kernel
theorem dX8_reads_32 : decode cX8_reads 32 = .ok (.aload_n 0, 1) := by decide +kernel
theorem dX8_reads_33 : decode cX8_reads 33 = .ok (.getfield 178, 3) := by decide +kernel
theorem dX8_reads_36 : decode cX8_reads 36 = .ok (.iload_n 1, 1) := by decide +kernel
theorem dX8_reads_37 : decode cX8_reads 37 = .ok (.invokevirtual 184, 3) := by decide +kernel
theorem dX8_reads_40 : decode cX8_reads 40 = .ok (.istore_n 2, 1) := by decide +kernel
theorem dX8_reads_41 : decode cX8_reads 41 = .ok (.iload_n 2, 1) := by decide +kernel
theorem dX8_reads_42 : decode cX8_reads 42 = .ok (.ifCond .eq 5, 3) := by decide +kernel
theorem dX8_reads_45 : decode cX8_reads 45 = .ok (.iload_n 2, 1) := by decide +kernel
theorem dX8_reads_46 : decode cX8_reads 46 = .ok (.ireturn, 1) := by decide +kernel
theorem dX8_reads_47 : decode cX8_reads 47 = .ok (.aload_n 0, 1) := by decide +kernel
theorem dX8_reads_48 : decode cX8_reads 48 = .ok (.dup, 1) := by decide +kernel
theorem dX8_reads_49 : decode cX8_reads 49 = .ok (.getfield 178, 3) := by decide +kernel
theorem dX8_reads_52 : decode cX8_reads 52 = .ok (.iconst 1, 1) := by decide +kernel
theorem dX8_reads_53 : decode cX8_reads 53 = .ok (.iadd, 1) := by decide +kernel
theorem dX8_reads_54 : decode cX8_reads 54 = .ok (.putfield 178, 3) := by decide +kernel
theorem dX8_reads_57 : decode cX8_reads 57 = .ok (.iload_n 1, 1) := by decide +kernel
theorem dX8_reads_58 : decode cX8_reads 58 = .ok (.aload_n 0, 1) := by decide +kernel
theorem dX8_reads_59 : decode cX8_reads 59 = .ok (.getfield 168, 3) := by decide +kernel
theorem dX8_reads_62 : decode cX8_reads 62 = .ok (.ifCond .ne 19, 3) := by decide +kernel
theorem dX8_reads_65 : decode cX8_reads 65 = .ok (.aload_n 0, 1) := by decide +kernel
theorem dX8_reads_66 : decode cX8_reads 66 = .ok (.getfield 28, 3) := by decide +kernel
theorem dX8_reads_69 : decode cX8_reads 69 = .ok (.iconst 2, 1) := by decide +kernel
theorem dX8_reads_70 : decode cX8_reads 70 = .ok (.iaload, 1) := by decide +kernel
theorem dX8_reads_71 : decode cX8_reads 71 = .ok (.aload_n 0, 1) := by decide +kernel
theorem dX8_reads_72 : decode cX8_reads 72 = .ok (.getfield 28, 3) := by decide +kernel
theorem dX8_reads_75 : decode cX8_reads 75 = .ok (.iconst 3, 1) := by decide +kernel
theorem dX8_reads_76 : decode cX8_reads 76 = .ok (.iaload, 1) := by decide +kernel
theorem dX8_reads_77 : decode cX8_reads 77 = .ok (.imul, 1) := by decide +kernel
theorem dX8_reads_78 : decode cX8_reads 78 = .ok (.goto 4, 3) := by decide +kernel
theorem dX8_reads_81 : decode cX8_reads 81 = .ok (.iconst 0, 1) := by decide +kernel
theorem dX8_reads_82 : decode cX8_reads 82 = .ok (.iadd, 1) := by decide +kernel
theorem dX8_reads_83 : decode cX8_reads 83 = .ok (.istore_n 1, 1) := by decide +kernel
theorem dX8_reads_84 : decode cX8_reads 84 = .ok (.goto (-72), 3) := by decide +kernel
theorem dX8_reads_87 : decode cX8_reads 87 = .ok (.iconst 0, 1) := by decide +kernel
theorem dX8_reads_88 : decode cX8_reads 88 = .ok (.ireturn, 1) := by decide +kernel
set_option maxRecDepth 20000 in
theorem ggX8_fault_X8_in : GoodIn wsX8_fault wsX8_in := goodIn_r _ [5] (by decide +kernel) (by decide +kernel)
set_option maxRecDepth 20000 in
theorem gX8_fault_X8_in : GoodIn wsX8_fault (va_wsS RX8 36 yX8_in wsX8_in) := goodIn_app (goodIn_of _ (by decide +kernel)) ggX8_fault_X8_in
set_option maxRecDepth 20000 in
theorem ggX8_fault_X8_reads : GoodIn wsX8_fault wsX8_reads := goodIn_r _ [9, 10, 11, 12, 1, 13, 14, 15, 16, 17, 4, 18, 19, 20, 21, 22, 23, 24, 25, 26, 27, 28, 29, 30, 31, 32, 33, 34, 2, 3, 5, 35, 36, 37, 38, 39, 40, 41, 42, 43, 44, 45, 46, 47, 48, 49, 50, 51, 52, 53, 54, 55] (by decide +kernel) (by decide +kernel)
set_option maxRecDepth 20000 in
theorem gX8_fault_X8_reads : GoodIn wsX8_fault (wsV RX8 187 RX8 yX8_reads wsX8_reads) := goodIn_app (goodIn_of _ (by decide +kernel)) ggX8_fault_X8_reads
theorem dX8_fault_0 : decode cX8_fault 0 = .ok (.iload_n 1, 1) := by decide +kernel
theorem dX8_fault_1 : decode cX8_fault 1 = .ok (.iconst 0, 1) := by decide +kernel
theorem dX8_fault_2 : decode cX8_fault 2 = .ok (.iconst 1, 1) := by decide +kernel
theorem dX8_fault_3 : decode cX8_fault 3 = .ok (.invokestatic 36, 3) := by decide +kernel
theorem dX8_fault_6 : decode cX8_fault 6 = .ok (.ifCond .ne 5, 3) := by decide +kernel
theorem dX8_fault_9 : decode cX8_fault 9 = .ok (.iconst (-1), 1) := by decide +kernel
theorem dX8_fault_10 : decode cX8_fault 10 = .ok (.ireturn, 1) := by decide +kernel
theorem dX8_fault_11 : decode cX8_fault 11 = .ok (.aload_n 0, 1) := by decide +kernel
theorem dX8_fault_12 : decode cX8_fault 12 = .ok (.invokevirtual 187, 3) := by decide +kernel
theorem dX8_fault_15 : decode cX8_fault 15 = .ok (.istore_n 2, 1) := by decide +kernel
theorem dX8_fault_16 : decode cX8_fault 16 = .ok (.iload_n 2, 1) := by decide +kernel
theorem dX8_fault_17 : decode cX8_fault 17 = .ok (.ifCond .ne 8, 3) := by decide +kernel
theorem dX8_fault_20 : decode cX8_fault 20 = .ok (.bipush (-4), 2) := by decide +kernel
theorem dX8_fault_22 : decode cX8_fault 22 = .ok (.goto 15, 3) := by decide +kernel
theorem dX8_fault_25 : decode cX8_fault 25 = .ok (.iload_n 1, 1) := by decide +kernel
theorem dX8_fault_26 : decode cX8_fault 26 = .ok (.ifCond .ne 10, 3) := by decide +kernel
theorem dX8_fault_29 : decode cX8_fault 29 = .ok (.aload_n 0, 1) := by decide +kernel
theorem dX8_fault_30 : decode cX8_fault 30 = .ok (.getfield 181, 3) := by decide +kernel
theorem dX8_fault_33 : decode cX8_fault 33 = .ok (.goto 4, 3) := by decide +kernel
theorem dX8_fault_36 : decode cX8_fault 36 = .ok (.iload_n 2, 1) := by decide +kernel
theorem dX8_fault_37 : decode cX8_fault 37 = .ok (.ireturn, 1) := by decide +kernel
set_option maxRecDepth 20000 in
theorem ggX8_load_X8_reads : GoodIn wsX8_load wsX8_reads := goodIn_r _ [10, 1, 5, 2, 11, 4, 3, 12, 13, 14, 9, 15, 16, 17, 18, 19, 20, 21, 22, 23, 24, 25, 26, 27, 28, 29, 30, 31, 32, 33, 34, 35, 36, 37, 38, 39, 40, 41, 42, 56, 57, 58, 59, 60, 61, 62, 63, 64, 65, 66, 67, 68] (by decide +kernel) (by decide +kernel)
set_option maxRecDepth 20000 in
theorem gX8_load_X8_reads : GoodIn wsX8_load (wsV RX8 187 RX8 yX8_reads wsX8_reads) := goodIn_app (goodIn_of _ (by decide +kernel)) ggX8_load_X8_reads
set_option maxRecDepth 20000 in
theorem ggX8_load_X8_changes : GoodIn wsX8_load wsX8_changes := goodIn_r _ [46, 47, 48, 17, 56, 57, 58, 59, 60, 61, 62, 63, 64, 65, 66, 67, 68] (by decide +kernel) (by decide +kernel)
set_option maxRecDepth 20000 in
theorem gX8_load_X8_changes : GoodIn wsX8_load (wsV RX8 40 RX8 yX8_changes wsX8_changes) := goodIn_app (goodIn_of _ (by decide +kernel)) ggX8_load_X8_changes
set_option maxRecDepth 20000 in
theorem ggX8_load_X8_isEntry : GoodIn wsX8_load wsX8_isEntry := goodIn_r _ [22, 4, 3, 23, 24, 25, 9, 26, 1, 2, 27, 28, 29, 30, 31, 32, 33, 34, 56, 57, 58, 59, 60, 61, 62, 63, 64, 65, 66, 67, 68] (by decide +kernel) (by decide +kernel)
set_option maxRecDepth 20000 in
theorem gX8_load_X8_isEntry : GoodIn wsX8_load (wsV RX8 174 RX8 yX8_isEntry wsX8_isEntry) := goodIn_app (goodIn_of _ (by decide +kernel)) ggX8_load_X8_isEntry
set_option maxRecDepth 20000 in
theorem ggX8_load_X8_puts : GoodIn wsX8_load wsX8_puts := goodIn_r _ [52, 17, 53, 54, 9, 55, 56, 57, 58, 59, 60, 61, 62, 63, 64, 65, 66, 67, 68] (by decide +kernel) (by decide +kernel)
set_option maxRecDepth 20000 in
theorem gX8_load_X8_puts : GoodIn wsX8_load (wsV RX8 108 RX8 yX8_puts wsX8_puts) := goodIn_app (goodIn_of _ (by decide +kernel)) ggX8_load_X8_puts
theorem dX8_load_0 : decode cX8_load 0 = .ok (.aload_n 0, 1) := by decide +kernel
theorem dX8_load_1 : decode cX8_load 1 = .ok (.invokevirtual 187, 3) := by decide +kernel
theorem dX8_load_4 : decode cX8_load 4 = .ok (.ifCond .eq 6, 3) := by decide +kernel
theorem dX8_load_7 : decode cX8_load 7 = .ok (.bipush (-2), 2) := by decide +kernel
theorem dX8_load_9 : decode cX8_load 9 = .ok (.ireturn, 1) := by decide +kernel
theorem dX8_load_10 : decode cX8_load 10 = .ok (.aload_n 0, 1) := by decide +kernel
theorem dX8_load_11 : decode cX8_load 11 = .ok (.invokevirtual 40, 3) := by decide +kernel
theorem dX8_load_14 : decode cX8_load 14 = .ok (.aload_n 0, 1) := by decide +kernel
theorem dX8_load_15 : decode cX8_load 15 = .ok (.iconst 0, 1) := by decide +kernel
theorem dX8_load_16 : decode cX8_load 16 = .ok (.putfield 162, 3) := by decide +kernel
theorem dX8_load_19 : decode cX8_load 19 = .ok (.iconst 1, 1) := by decide +kernel
theorem dX8_load_20 : decode cX8_load 20 = .ok (.istore_n 1, 1) := by decide +kernel
theorem dX8_load_21 : decode cX8_load 21 = .ok (.iload_n 1, 1) := by decide +kernel
theorem dX8_load_22 : decode cX8_load 22 = .ok (.ifCond .eq 81, 3) := by decide +kernel
theorem dX8_load_25 : decode cX8_load 25 = .ok (.aload_n 0, 1) := by decide +kernel
theorem dX8_load_26 : decode cX8_load 26 = .ok (.getfield 162, 3) := by decide +kernel
theorem dX8_load_29 : decode cX8_load 29 = .ok (.aload_n 0, 1) := by decide +kernel
theorem dX8_load_30 : decode cX8_load 30 = .ok (.getfield 104, 3) := by decide +kernel
theorem dX8_load_33 : decode cX8_load 33 = .ok (.if_icmp .ge 70, 3) := by decide +kernel
theorem dX8_load_36 : decode cX8_load 36 = .ok (.aload_n 0, 1) := by decide +kernel
theorem dX8_load_37 : decode cX8_load 37 = .ok (.invokevirtual 174, 3) := by decide +kernel
theorem dX8_load_40 : decode cX8_load 40 = .ok (.istore_n 1, 1) := by decide +kernel
theorem dX8_load_41 : decode cX8_load 41 = .ok (.aload_n 0, 1) := by decide +kernel
theorem dX8_load_42 : decode cX8_load 42 = .ok (.aload_n 0, 1) := by decide +kernel
theorem dX8_load_43 : decode cX8_load 43 = .ok (.getfield 28, 3) := by decide +kernel
theorem dX8_load_46 : decode cX8_load 46 = .ok (.iconst 1, 1) := by decide +kernel
theorem dX8_load_47 : decode cX8_load 47 = .ok (.iaload, 1) := by decide +kernel
theorem dX8_load_48 : decode cX8_load 48 = .ok (.aload_n 0, 1) := by decide +kernel
theorem dX8_load_49 : decode cX8_load 49 = .ok (.getfield 168, 3) := by decide +kernel
theorem dX8_load_52 : decode cX8_load 52 = .ok (.aload_n 0, 1) := by decide +kernel
theorem dX8_load_53 : decode cX8_load 53 = .ok (.getfield 28, 3) := by decide +kernel
theorem dX8_load_56 : decode cX8_load 56 = .ok (.iconst 0, 1) := by decide +kernel
theorem dX8_load_57 : decode cX8_load 57 = .ok (.iaload, 1) := by decide +kernel
theorem dX8_load_58 : decode cX8_load 58 = .ok (.aload_n 0, 1) := by decide +kernel
theorem dX8_load_59 : decode cX8_load 59 = .ok (.getfield 168, 3) := by decide +kernel
theorem dX8_load_62 : decode cX8_load 62 = .ok (.ifCond .ne 12, 3) := by decide +kernel
theorem dX8_load_65 : decode cX8_load 65 = .ok (.aload_n 0, 1) := by decide +kernel
theorem dX8_load_66 : decode cX8_load 66 = .ok (.getfield 28, 3) := by decide +kernel
theorem dX8_load_69 : decode cX8_load 69 = .ok (.iconst 2, 1) := by decide +kernel
theorem dX8_load_70 : decode cX8_load 70 = .ok (.iaload, 1) := by decide +kernel
theorem dX8_load_71 : decode cX8_load 71 = .ok (.goto 4, 3) := by decide +kernel
theorem dX8_load_74 : decode cX8_load 74 = .ok (.iconst 0, 1) := by decide +kernel
theorem dX8_load_75 : decode cX8_load 75 = .ok (.aload_n 0, 1) := by decide +kernel
theorem dX8_load_76 : decode cX8_load 76 = .ok (.getfield 168, 3) := by decide +kernel
theorem dX8_load_79 : decode cX8_load 79 = .ok (.ifCond .ne 12, 3) := by decide +kernel
theorem dX8_load_82 : decode cX8_load 82 = .ok (.aload_n 0, 1) := by decide +kernel
theorem dX8_load_83 : decode cX8_load 83 = .ok (.getfield 28, 3) := by decide +kernel
theorem dX8_load_86 : decode cX8_load 86 = .ok (.iconst 3, 1) := by decide +kernel
theorem dX8_load_87 : decode cX8_load 87 = .ok (.iaload, 1) := by decide +kernel
theorem dX8_load_88 : decode cX8_load 88 = .ok (.goto 9, 3) := by decide +kernel
theorem dX8_load_91 : decode cX8_load 91 = .ok (.aload_n 0, 1) := by decide +kernel
theorem dX8_load_92 : decode cX8_load 92 = .ok (.getfield 28, 3) := by decide +kernel
theorem dX8_load_95 : decode cX8_load 95 = .ok (.iconst 2, 1) := by decide +kernel
theorem dX8_load_96 : decode cX8_load 96 = .ok (.iaload, 1) := by decide +kernel
theorem dX8_load_97 : decode cX8_load 97 = .ok (.invokevirtual 108, 3) := by decide +kernel
theorem dX8_load_100 : decode cX8_load 100 = .ok (.goto (-79), 3) := by decide +kernel
theorem dX8_load_103 : decode cX8_load 103 = .ok (.aload_n 0, 1) := by decide +kernel
theorem dX8_load_104 : decode cX8_load 104 = .ok (.getfield 178, 3) := by decide +kernel
theorem dX8_load_107 : decode cX8_load 107 = .ok (.ireturn, 1) := by decide +kernel
theorem dJ9_floorMod_7cf53_0 : decode cJ9_floorMod_7cf53 0 = .ok (.iload_n 0, 1) := by decide +kernel
theorem dJ9_floorMod_7cf53_1 : decode cJ9_floorMod_7cf53 1 = .ok (.iload_n 1, 1) := by decide +kernel
theorem dJ9_floorMod_7cf53_2 : decode cJ9_floorMod_7cf53 2 = .ok (.irem, 1) := by decide +kernel
theorem dJ9_floorMod_7cf53_3 : decode cJ9_floorMod_7cf53 3 = .ok (.istore_n 2, 1) := by decide +kernel
theorem dJ9_floorMod_7cf53_4 : decode cJ9_floorMod_7cf53 4 = .ok (.iload_n 0, 1) := by decide +kernel
theorem dJ9_floorMod_7cf53_5 : decode cJ9_floorMod_7cf53 5 = .ok (.iload_n 1, 1) := by decide +kernel
theorem dJ9_floorMod_7cf53_6 : decode cJ9_floorMod_7cf53 6 = .ok (.ixor, 1) := by decide +kernel
theorem dJ9_floorMod_7cf53_7 : decode cJ9_floorMod_7cf53 7 = .ok (.ifCond .ge 11, 3) := by decide +kernel
theorem dJ9_floorMod_7cf53_10 : decode cJ9_floorMod_7cf53 10 = .ok (.iload_n 2, 1) := by decide +kernel
theorem dJ9_floorMod_7cf53_11 : decode cJ9_floorMod_7cf53 11 = .ok (.ifCond .eq 7, 3) := by decide +kernel
theorem dJ9_floorMod_7cf53_14 : decode cJ9_floorMod_7cf53 14 = .ok (.iload_n 2, 1) := by decide +kernel
theorem dJ9_floorMod_7cf53_15 : decode cJ9_floorMod_7cf53 15 = .ok (.iload_n 1, 1) := by decide +kernel
theorem dJ9_floorMod_7cf53_16 : decode cJ9_floorMod_7cf53 16 = .ok (.iadd, 1) := by decide +kernel
theorem dJ9_floorMod_7cf53_17 : decode cJ9_floorMod_7cf53 17 = .ok (.ireturn, 1) := by decide +kernel
theorem dJ9_floorMod_7cf53_18 : decode cJ9_floorMod_7cf53 18 = .ok (.iload_n 2, 1) := by decide +kernel
theorem dJ9_floorMod_7cf53_19 : decode cJ9_floorMod_7cf53 19 = .ok (.ireturn, 1) := by decide +kernel
theorem dJ9_abs_0f7a4_0 : decode cJ9_abs_0f7a4 0 = .ok (.iload_n 0, 1) := by decide +kernel
theorem dJ9_abs_0f7a4_1 : decode cJ9_abs_0f7a4 1 = .ok (.ifCond .ge 8, 3) := by decide +kernel
theorem dJ9_abs_0f7a4_4 : decode cJ9_abs_0f7a4 4 = .ok (.iload_n 0, 1) := by decide +kernel
theorem dJ9_abs_0f7a4_5 : decode cJ9_abs_0f7a4 5 = .ok (.ineg, 1) := by decide +kernel
theorem dJ9_abs_0f7a4_6 : decode cJ9_abs_0f7a4 6 = .ok (.goto 4, 3) := by decide +kernel
theorem dJ9_abs_0f7a4_9 : decode cJ9_abs_0f7a4 9 = .ok (.iload_n 0, 1) := by decide +kernel
theorem dJ9_abs_0f7a4_10 : decode cJ9_abs_0f7a4 10 = .ok (.ireturn, 1) := by decide +kernel
theorem dJ9_max_7cf53_0 : decode cJ9_max_7cf53 0 = .ok (.iload_n 0, 1) := by decide +kernel
theorem dJ9_max_7cf53_1 : decode cJ9_max_7cf53 1 = .ok (.iload_n 1, 1) := by decide +kernel
theorem dJ9_max_7cf53_2 : decode cJ9_max_7cf53 2 = .ok (.if_icmp .lt 7, 3) := by decide +kernel
theorem dJ9_max_7cf53_5 : decode cJ9_max_7cf53 5 = .ok (.iload_n 0, 1) := by decide +kernel
theorem dJ9_max_7cf53_6 : decode cJ9_max_7cf53 6 = .ok (.goto 4, 3) := by decide +kernel
theorem dJ9_max_7cf53_9 : decode cJ9_max_7cf53 9 = .ok (.iload_n 1, 1) := by decide +kernel
theorem dJ9_max_7cf53_10 : decode cJ9_max_7cf53 10 = .ok (.ireturn, 1) := by decide +kernel
theorem dJ9_min_7cf53_0 : decode cJ9_min_7cf53 0 = .ok (.iload_n 0, 1) := by decide +kernel
theorem dJ9_min_7cf53_1 : decode cJ9_min_7cf53 1 = .ok (.iload_n 1, 1) := by decide +kernel
theorem dJ9_min_7cf53_2 : decode cJ9_min_7cf53 2 = .ok (.if_icmp .gt 7, 3) := by decide +kernel
theorem dJ9_min_7cf53_5 : decode cJ9_min_7cf53 5 = .ok (.iload_n 0, 1) := by decide +kernel
theorem dJ9_min_7cf53_6 : decode cJ9_min_7cf53 6 = .ok (.goto 4, 3) := by decide +kernel
theorem dJ9_min_7cf53_9 : decode cJ9_min_7cf53 9 = .ok (.iload_n 1, 1) := by decide +kernel
theorem dJ9_min_7cf53_10 : decode cJ9_min_7cf53 10 = .ok (.ireturn, 1) := by decide +kernel
