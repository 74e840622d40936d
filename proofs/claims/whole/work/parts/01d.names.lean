theorem dX6_append_36 : decode cX6_append 36 = .ok (.putfield 22, 3) := by decide +kernel
theorem dX6_append_39 : decode cX6_append 39 = .ok (.return_, 1) := by decide +kernel
set_option maxRecDepth 20000 in
theorem ggX6_check_X6_readEntry : GoodIn wsX6_check wsX6_readEntry := goodIn_r _ [10, 11, 12, 13, 9, 14, 2, 3, 15, 16, 17, 18, 19, 5, 20, 21, 22, 23, 24, 25, 26, 27, 28, 29, 30, 31, 32, 33, 34, 35, 36, 37, 38, 39, 40, 41, 42, 43, 44, 45, 81, 82, 83, 84, 85, 86, 87, 88, 89, 90, 91] (by decide +kernel) (by decide +kernel)
set_option maxRecDepth 20000 in
theorem gX6_check_X6_readEntry : GoodIn wsX6_check (wsV RX6 35 RX6 yX6_readEntry wsX6_readEntry) := goodIn_app (goodIn_of _ (by decide +kernel)) ggX6_check_X6_readEntry
set_option maxRecDepth 20000 in
theorem ggX6_check_X6_reasonAgainst : GoodIn wsX6_check wsX6_reasonAgainst := goodIn_r _ [49, 5, 50, 51, 52, 53, 54, 55, 56, 57, 58, 59, 60, 61, 62, 63, 64, 65, 66, 67, 68, 69, 70, 71, 72, 73, 74, 75, 76, 77, 78, 79, 31, 80, 33, 36, 37, 81, 82, 83, 84, 85, 86, 87, 88, 89, 90, 91, 92, 93, 94, 95, 96, 97, 98, 99, 100, 101, 102, 103] (by decide +kernel) (by decide +kernel)
set_option maxRecDepth 20000 in
theorem gX6_check_X6_reasonAgainst : GoodIn wsX6_check (wsV RX6 39 RX6 yX6_reasonAgainst wsX6_reasonAgainst) := goodIn_app (goodIn_of _ (by decide +kernel)) ggX6_check_X6_reasonAgainst
set_option maxRecDepth 20000 in
theorem ggX6_check_X1_allEnergy : GoodIn wsX6_check wsX1_allEnergy := goodIn_r _ [80, 33, 36, 37, 87, 88, 89, 90, 91] (by decide +kernel) (by decide +kernel)
set_option maxRecDepth 20000 in
theorem gX6_check_X1_allEnergy : GoodIn wsX6_check (wsV RX6 43 RX1 yX1_allEnergy wsX1_allEnergy) := goodIn_app (goodIn_of _ (by decide +kernel)) ggX6_check_X1_allEnergy
theorem dX6_check_0 : decode cX6_check 0 = .ok (.iconst 0, 1) := by decide +kernel
theorem dX6_check_1 : decode cX6_check 1 = .ok (.istore_n 2, 1) := by decide +kernel
theorem dX6_check_2 : decode cX6_check 2 = .ok (.iconst 0, 1) := by decide +kernel
theorem dX6_check_3 : decode cX6_check 3 = .ok (.istore_n 3, 1) := by decide +kernel
theorem dX6_check_4 : decode cX6_check 4 = .ok (.aload_n 0, 1) := by decide +kernel
theorem dX6_check_5 : decode cX6_check 5 = .ok (.iconst 0, 1) := by decide +kernel
theorem dX6_check_6 : decode cX6_check 6 = .ok (.putfield 26, 3) := by decide +kernel
theorem dX6_check_9 : decode cX6_check 9 = .ok (.aload_n 0, 1) := by decide +kernel
theorem dX6_check_10 : decode cX6_check 10 = .ok (.iconst 0, 1) := by decide +kernel
theorem dX6_check_11 : decode cX6_check 11 = .ok (.putfield 29, 3) := by decide +kernel
theorem dX6_check_14 : decode cX6_check 14 = .ok (.iconst 0, 1) := by decide +kernel
theorem dX6_check_15 : decode cX6_check 15 = .ok (.istore 4, 2) := by decide +kernel
theorem dX6_check_17 : decode cX6_check 17 = .ok (.iload 4, 2) := by decide +kernel
theorem dX6_check_19 : decode cX6_check 19 = .ok (.bipush 80, 2) := by decide +kernel
theorem dX6_check_21 : decode cX6_check 21 = .ok (.if_icmp .ge 71, 3) := by decide +kernel
theorem dX6_check_24 : decode cX6_check 24 = .ok (.aload_n 0, 1) := by decide +kernel
theorem dX6_check_25 : decode cX6_check 25 = .ok (.getfield 29, 3) := by decide +kernel
theorem dX6_check_28 : decode cX6_check 28 = .ok (.aload_n 0, 1) := by decide +kernel
theorem dX6_check_29 : decode cX6_check 29 = .ok (.getfield 22, 3) := by decide +kernel
theorem dX6_check_32 : decode cX6_check 32 = .ok (.if_icmp .ge 60, 3) := by decide +kernel
theorem dX6_check_35 : decode cX6_check 35 = .ok (.aload_n 0, 1) := by decide +kernel
theorem dX6_check_36 : decode cX6_check 36 = .ok (.aload_n 0, 1) := by decide +kernel
theorem dX6_check_37 : decode cX6_check 37 = .ok (.getfield 29, 3) := by decide +kernel
theorem dX6_check_40 : decode cX6_check 40 = .ok (.putfield 32, 3) := by decide +kernel
theorem dX6_check_43 : decode cX6_check 43 = .ok (.aload_n 0, 1) := by decide +kernel
theorem dX6_check_44 : decode cX6_check 44 = .ok (.aload_n 0, 1) := by decide +kernel
theorem dX6_check_45 : decode cX6_check 45 = .ok (.invokevirtual 35, 3) := by decide +kernel
theorem dX6_check_48 : decode cX6_check 48 = .ok (.ifCond .eq 13, 3) := by decide +kernel
theorem dX6_check_51 : decode cX6_check 51 = .ok (.aload_n 0, 1) := by decide +kernel
theorem dX6_check_52 : decode cX6_check 52 = .ok (.aload_n 1, 1) := by decide +kernel
theorem dX6_check_53 : decode cX6_check 53 = .ok (.iload_n 2, 1) := by decide +kernel
theorem dX6_check_54 : decode cX6_check 54 = .ok (.iload_n 3, 1) := by decide +kernel
theorem dX6_check_55 : decode cX6_check 55 = .ok (.invokevirtual 39, 3) := by decide +kernel
theorem dX6_check_58 : decode cX6_check 58 = .ok (.goto 4, 3) := by decide +kernel
theorem dX6_check_61 : decode cX6_check 61 = .ok (.iconst 1, 1) := by decide +kernel
theorem dX6_check_62 : decode cX6_check 62 = .ok (.putfield 26, 3) := by decide +kernel
theorem dX6_check_65 : decode cX6_check 65 = .ok (.aload_n 0, 1) := by decide +kernel
theorem dX6_check_66 : decode cX6_check 66 = .ok (.getfield 26, 3) := by decide +kernel
theorem dX6_check_69 : decode cX6_check 69 = .ok (.ifCond .eq 4, 3) := by decide +kernel
theorem dX6_check_72 : decode cX6_check 72 = .ok (.return_, 1) := by decide +kernel
theorem dX6_check_73 : decode cX6_check 73 = .ok (.iinc 2 1, 3) := by decide +kernel
theorem dX6_check_76 : decode cX6_check 76 = .ok (.iload_n 3, 1) := by decide +kernel
theorem dX6_check_77 : decode cX6_check 77 = .ok (.aload_n 0, 1) := by decide +kernel
theorem dX6_check_78 : decode cX6_check 78 = .ok (.getfield 18, 3) := by decide +kernel
theorem dX6_check_81 : decode cX6_check 81 = .ok (.invokevirtual 43, 3) := by decide +kernel
theorem dX6_check_84 : decode cX6_check 84 = .ok (.iadd, 1) := by decide +kernel
theorem dX6_check_85 : decode cX6_check 85 = .ok (.istore_n 3, 1) := by decide +kernel
theorem dX6_check_86 : decode cX6_check 86 = .ok (.iinc 4 1, 3) := by decide +kernel
theorem dX6_check_89 : decode cX6_check 89 = .ok (.goto (-72), 3) := by decide +kernel
theorem dX6_check_92 : decode cX6_check 92 = .ok (.return_, 1) := by decide +kernel
set_option maxRecDepth 20000 in
theorem ggX6_giveTo_X6_readEntry : GoodIn wsX6_giveTo wsX6_readEntry := goodIn_r _ [8, 9, 10, 11, 7, 12, 1, 2, 13, 14, 15, 16, 17, 3, 18, 19, 20, 21, 22, 23, 24, 25, 26, 27, 28, 29, 30, 31, 32, 33, 34, 35, 36, 37, 38, 39, 40, 41, 42, 43, 67, 68, 69, 70, 71, 72, 73, 74, 75, 76, 77] (by decide +kernel) (by decide +kernel)
set_option maxRecDepth 20000 in
theorem gX6_giveTo_X6_readEntry : GoodIn wsX6_giveTo (wsV RX6 35 RX6 yX6_readEntry wsX6_readEntry) := goodIn_app (goodIn_of _ (by decide +kernel)) ggX6_giveTo_X6_readEntry
set_option maxRecDepth 20000 in
theorem ggX6_giveTo_X3_take : GoodIn wsX6_giveTo wsX3_take := goodIn_r _ [48, 49, 50, 51, 52, 53, 54, 55, 56, 57, 58, 59, 60, 61, 29, 62, 31, 33, 32, 34, 35, 63, 64, 65, 66, 78, 79, 80, 81, 82, 83, 84, 85, 86, 87, 88, 89, 73, 74, 75, 76, 77] (by decide +kernel) (by decide +kernel)
set_option maxRecDepth 20000 in
theorem gX6_giveTo_X3_take : GoodIn wsX6_giveTo (wsV RX6 47 RX3 yX3_take wsX3_take) := goodIn_app (goodIn_of _ (by decide +kernel)) ggX6_giveTo_X3_take
theorem dX6_giveTo_0 : decode cX6_giveTo 0 = .ok (.iconst 0, 1) := by decide +kernel
theorem dX6_giveTo_1 : decode cX6_giveTo 1 = .ok (.istore_n 2, 1) := by decide +kernel
theorem dX6_giveTo_2 : decode cX6_giveTo 2 = .ok (.aload_n 0, 1) := by decide +kernel
theorem dX6_giveTo_3 : decode cX6_giveTo 3 = .ok (.iconst 0, 1) := by decide +kernel
theorem dX6_giveTo_4 : decode cX6_giveTo 4 = .ok (.putfield 29, 3) := by decide +kernel
theorem dX6_giveTo_7 : decode cX6_giveTo 7 = .ok (.iconst 0, 1) := by decide +kernel
theorem dX6_giveTo_8 : decode cX6_giveTo 8 = .ok (.istore_n 3, 1) := by decide +kernel
theorem dX6_giveTo_9 : decode cX6_giveTo 9 = .ok (.iload_n 3, 1) := by decide +kernel
theorem dX6_giveTo_10 : decode cX6_giveTo 10 = .ok (.bipush 80, 2) := by decide +kernel
theorem dX6_giveTo_12 : decode cX6_giveTo 12 = .ok (.if_icmp .ge 38, 3) := by decide +kernel
theorem dX6_giveTo_15 : decode cX6_giveTo 15 = .ok (.aload_n 0, 1) := by decide +kernel
theorem dX6_giveTo_16 : decode cX6_giveTo 16 = .ok (.getfield 29, 3) := by decide +kernel
theorem dX6_giveTo_19 : decode cX6_giveTo 19 = .ok (.aload_n 0, 1) := by decide +kernel
theorem dX6_giveTo_20 : decode cX6_giveTo 20 = .ok (.getfield 22, 3) := by decide +kernel
theorem dX6_giveTo_23 : decode cX6_giveTo 23 = .ok (.if_icmp .ge 27, 3) := by decide +kernel
theorem dX6_giveTo_26 : decode cX6_giveTo 26 = .ok (.aload_n 0, 1) := by decide +kernel
theorem dX6_giveTo_27 : decode cX6_giveTo 27 = .ok (.invokevirtual 35, 3) := by decide +kernel
theorem dX6_giveTo_30 : decode cX6_giveTo 30 = .ok (.ifCond .eq 20, 3) := by decide +kernel
theorem dX6_giveTo_33 : decode cX6_giveTo 33 = .ok (.aload_n 1, 1) := by decide +kernel
theorem dX6_giveTo_34 : decode cX6_giveTo 34 = .ok (.aload_n 0, 1) := by decide +kernel
theorem dX6_giveTo_35 : decode cX6_giveTo 35 = .ok (.getfield 18, 3) := by decide +kernel
theorem dX6_giveTo_38 : decode cX6_giveTo 38 = .ok (.invokevirtual 47, 3) := by decide +kernel
theorem dX6_giveTo_41 : decode cX6_giveTo 41 = .ok (.iinc 2 1, 3) := by decide +kernel
theorem dX6_giveTo_44 : decode cX6_giveTo 44 = .ok (.iinc 3 1, 3) := by decide +kernel
theorem dX6_giveTo_47 : decode cX6_giveTo 47 = .ok (.goto (-38), 3) := by decide +kernel
theorem dX6_giveTo_50 : decode cX6_giveTo 50 = .ok (.iload_n 2, 1) := by decide +kernel
theorem dX6_giveTo_51 : decode cX6_giveTo 51 = .ok (.ireturn, 1) := by decide +kernel
set_option maxRecDepth 20000 in
theorem ggX6_reasonAgainst_X3_roomAt : GoodIn wsX6_reasonAgainst wsX3_roomAt := goodIn_r _ [17, 18, 19, 48, 49, 50, 51, 52, 53, 54, 55, 56, 57] (by decide +kernel) (by decide +kernel)
set_option maxRecDepth 20000 in
theorem gX6_reasonAgainst_X3_roomAt : GoodIn wsX6_reasonAgainst (wsV RX6 60 RX3 yX3_roomAt wsX3_roomAt) := goodIn_app (goodIn_of _ (by decide +kernel)) ggX6_reasonAgainst_X3_roomAt
set_option maxRecDepth 20000 in
theorem ggX6_reasonAgainst_X3_doorAt : GoodIn wsX6_reasonAgainst wsX3_doorAt := goodIn_r _ [23, 24, 25, 48, 49, 50, 51, 52, 53, 54, 55, 56, 57] (by decide +kernel) (by decide +kernel)
set_option maxRecDepth 20000 in
theorem gX6_reasonAgainst_X3_doorAt : GoodIn wsX6_reasonAgainst (wsV RX6 64 RX3 yX3_doorAt wsX3_doorAt) := goodIn_app (goodIn_of _ (by decide +kernel)) ggX6_reasonAgainst_X3_doorAt
set_option maxRecDepth 20000 in
theorem ggX6_reasonAgainst_X7_isWithin : GoodIn wsX6_reasonAgainst wsX7_isWithin := goodIn_r _ [28] (by decide +kernel) (by decide +kernel)
set_option maxRecDepth 20000 in
theorem gX6_reasonAgainst_X7_isWithin_n71 : GoodIn wsX6_reasonAgainst (wsX7_isWithin) := ggX6_reasonAgainst_X7_isWithin
set_option maxRecDepth 20000 in
theorem ggX6_reasonAgainst_X1_allEnergy : GoodIn wsX6_reasonAgainst wsX1_allEnergy := goodIn_r _ [33, 34, 35, 36, 43, 44, 45, 46, 47] (by decide +kernel) (by decide +kernel)
set_option maxRecDepth 20000 in
theorem gX6_reasonAgainst_X1_allEnergy : GoodIn wsX6_reasonAgainst (wsV RX6 43 RX1 yX1_allEnergy wsX1_allEnergy) := goodIn_app (goodIn_of _ (by decide +kernel)) ggX6_reasonAgainst_X1_allEnergy
theorem dX6_reasonAgainst_0 : decode cX6_reasonAgainst 0 = .ok (.aload_n 0, 1) := by decide +kernel
theorem dX6_reasonAgainst_1 : decode cX6_reasonAgainst 1 = .ok (.getfield 18, 3) := by decide +kernel
theorem dX6_reasonAgainst_4 : decode cX6_reasonAgainst 4 = .ok (.getfield 53, 3) := by decide +kernel
theorem dX6_reasonAgainst_7 : decode cX6_reasonAgainst 7 = .ok (.ifCond .eq 25, 3) := by decide +kernel
theorem dX6_reasonAgainst_10 : decode cX6_reasonAgainst 10 = .ok (.aload_n 1, 1) := by decide +kernel
theorem dX6_reasonAgainst_11 : decode cX6_reasonAgainst 11 = .ok (.aload_n 0, 1) := by decide +kernel
theorem dX6_reasonAgainst_12 : decode cX6_reasonAgainst 12 = .ok (.getfield 18, 3) := by decide +kernel
theorem dX6_reasonAgainst_15 : decode cX6_reasonAgainst 15 = .ok (.getfield 57, 3) := by decide +kernel
theorem dX6_reasonAgainst_18 : decode cX6_reasonAgainst 18 = .ok (.invokevirtual 60, 3) := by decide +kernel
theorem dX6_reasonAgainst_21 : decode cX6_reasonAgainst 21 = .ok (.ifnull 7, 3) := by decide +kernel
theorem dX6_reasonAgainst_24 : decode cX6_reasonAgainst 24 = .ok (.iconst 1, 1) := by decide +kernel
theorem dX6_reasonAgainst_25 : decode cX6_reasonAgainst 25 = .ok (.goto 26, 3) := by decide +kernel
theorem dX6_reasonAgainst_28 : decode cX6_reasonAgainst 28 = .ok (.iconst 0, 1) := by decide +kernel
theorem dX6_reasonAgainst_29 : decode cX6_reasonAgainst 29 = .ok (.goto 22, 3) := by decide +kernel
theorem dX6_reasonAgainst_32 : decode cX6_reasonAgainst 32 = .ok (.aload_n 1, 1) := by decide +kernel
theorem dX6_reasonAgainst_33 : decode cX6_reasonAgainst 33 = .ok (.aload_n 0, 1) := by decide +kernel
theorem dX6_reasonAgainst_34 : decode cX6_reasonAgainst 34 = .ok (.getfield 18, 3) := by decide +kernel
theorem dX6_reasonAgainst_37 : decode cX6_reasonAgainst 37 = .ok (.getfield 57, 3) := by decide +kernel
theorem dX6_reasonAgainst_40 : decode cX6_reasonAgainst 40 = .ok (.invokevirtual 64, 3) := by decide +kernel
theorem dX6_reasonAgainst_43 : decode cX6_reasonAgainst 43 = .ok (.ifnull 7, 3) := by decide +kernel
theorem dX6_reasonAgainst_46 : decode cX6_reasonAgainst 46 = .ok (.iconst 1, 1) := by decide +kernel
theorem dX6_reasonAgainst_47 : decode cX6_reasonAgainst 47 = .ok (.goto 4, 3) := by decide +kernel
theorem dX6_reasonAgainst_50 : decode cX6_reasonAgainst 50 = .ok (.iconst 0, 1) := by decide +kernel
theorem dX6_reasonAgainst_51 : decode cX6_reasonAgainst 51 = .ok (.istore 4, 2) := by decide +kernel
theorem dX6_reasonAgainst_53 : decode cX6_reasonAgainst 53 = .ok (.iload 4, 2) := by decide +kernel
theorem dX6_reasonAgainst_55 : decode cX6_reasonAgainst 55 = .ok (.ifCond .ne 5, 3) := by decide +kernel
theorem dX6_reasonAgainst_58 : decode cX6_reasonAgainst 58 = .ok (.iconst 2, 1) := by decide +kernel
theorem dX6_reasonAgainst_59 : decode cX6_reasonAgainst 59 = .ok (.ireturn, 1) := by decide +kernel
theorem dX6_reasonAgainst_60 : decode cX6_reasonAgainst 60 = .ok (.aload_n 0, 1) := by decide +kernel
theorem dX6_reasonAgainst_61 : decode cX6_reasonAgainst 61 = .ok (.getfield 18, 3) := by decide +kernel
theorem dX6_reasonAgainst_64 : decode cX6_reasonAgainst 64 = .ok (.getfield 53, 3) := by decide +kernel
theorem dX6_reasonAgainst_67 : decode cX6_reasonAgainst 67 = .ok (.ifCond .eq 43, 3) := by decide +kernel
theorem dX6_reasonAgainst_70 : decode cX6_reasonAgainst 70 = .ok (.aload_n 0, 1) := by decide +kernel
theorem dX6_reasonAgainst_71 : decode cX6_reasonAgainst 71 = .ok (.getfield 18, 3) := by decide +kernel
theorem dX6_reasonAgainst_74 : decode cX6_reasonAgainst 74 = .ok (.getfield 68, 3) := by decide +kernel
theorem dX6_reasonAgainst_77 : decode cX6_reasonAgainst 77 = .ok (.iconst 1, 1) := by decide +kernel
theorem dX6_reasonAgainst_78 : decode cX6_reasonAgainst 78 = .ok (.bipush 20, 2) := by decide +kernel
theorem dX6_reasonAgainst_80 : decode cX6_reasonAgainst 80 = .ok (.invokestatic 71, 3) := by decide +kernel
theorem dX6_reasonAgainst_83 : decode cX6_reasonAgainst 83 = .ok (.ifCond .eq 23, 3) := by decide +kernel
theorem dX6_reasonAgainst_86 : decode cX6_reasonAgainst 86 = .ok (.aload_n 0, 1) := by decide +kernel
theorem dX6_reasonAgainst_87 : decode cX6_reasonAgainst 87 = .ok (.getfield 18, 3) := by decide +kernel
theorem dX6_reasonAgainst_90 : decode cX6_reasonAgainst 90 = .ok (.getfield 75, 3) := by decide +kernel
theorem dX6_reasonAgainst_93 : decode cX6_reasonAgainst 93 = .ok (.iconst 1, 1) := by decide +kernel
theorem dX6_reasonAgainst_94 : decode cX6_reasonAgainst 94 = .ok (.ldc 78, 2) := by decide +kernel
theorem dX6_reasonAgainst_96 : decode cX6_reasonAgainst 96 = .ok (.invokestatic 71, 3) := by decide +kernel
theorem dX6_reasonAgainst_99 : decode cX6_reasonAgainst 99 = .ok (.ifCond .eq 7, 3) := by decide +kernel
theorem dX6_reasonAgainst_102 : decode cX6_reasonAgainst 102 = .ok (.iconst 1, 1) := by decide +kernel
theorem dX6_reasonAgainst_103 : decode cX6_reasonAgainst 103 = .ok (.goto 20, 3) := by decide +kernel
theorem dX6_reasonAgainst_106 : decode cX6_reasonAgainst 106 = .ok (.iconst 0, 1) := by decide +kernel
theorem dX6_reasonAgainst_107 : decode cX6_reasonAgainst 107 = .ok (.goto 16, 3) := by decide +kernel
theorem dX6_reasonAgainst_110 : decode cX6_reasonAgainst 110 = .ok (.aload_n 0, 1) := by decide +kernel
theorem dX6_reasonAgainst_111 : decode cX6_reasonAgainst 111 = .ok (.getfield 18, 3) := by decide +kernel
theorem dX6_reasonAgainst_114 : decode cX6_reasonAgainst 114 = .ok (.getfield 75, 3) := by decide +kernel
theorem dX6_reasonAgainst_117 : decode cX6_reasonAgainst 117 = .ok (.iconst 0, 1) := by decide +kernel
theorem dX6_reasonAgainst_118 : decode cX6_reasonAgainst 118 = .ok (.bipush 10, 2) := by decide +kernel
theorem dX6_reasonAgainst_120 : decode cX6_reasonAgainst 120 = .ok (.invokestatic 71, 3) := by decide +kernel
theorem dX6_reasonAgainst_123 : decode cX6_reasonAgainst 123 = .ok (.istore 5, 2) := by decide +kernel
theorem dX6_reasonAgainst_125 : decode cX6_reasonAgainst 125 = .ok (.iload 5, 2) := by decide +kernel
theorem dX6_reasonAgainst_127 : decode cX6_reasonAgainst 127 = .ok (.ifCond .eq 20, 3) := by decide +kernel
theorem dX6_reasonAgainst_130 : decode cX6_reasonAgainst 130 = .ok (.aload_n 0, 1) := by decide +kernel
theorem dX6_reasonAgainst_131 : decode cX6_reasonAgainst 131 = .ok (.getfield 18, 3) := by decide +kernel
theorem dX6_reasonAgainst_134 : decode cX6_reasonAgainst 134 = .ok (.getfield 79, 3) := by decide +kernel
theorem dX6_reasonAgainst_137 : decode cX6_reasonAgainst 137 = .ok (.iconst 0, 1) := by decide +kernel
theorem dX6_reasonAgainst_138 : decode cX6_reasonAgainst 138 = .ok (.sipush 5000, 3) := by decide +kernel
theorem dX6_reasonAgainst_141 : decode cX6_reasonAgainst 141 = .ok (.invokestatic 71, 3) := by decide +kernel
theorem dX6_reasonAgainst_144 : decode cX6_reasonAgainst 144 = .ok (.ifCond .ne 5, 3) := by decide +kernel
theorem dX6_reasonAgainst_147 : decode cX6_reasonAgainst 147 = .ok (.iconst 3, 1) := by decide +kernel
theorem dX6_reasonAgainst_148 : decode cX6_reasonAgainst 148 = .ok (.ireturn, 1) := by decide +kernel
theorem dX6_reasonAgainst_149 : decode cX6_reasonAgainst 149 = .ok (.aload_n 0, 1) := by decide +kernel
theorem dX6_reasonAgainst_150 : decode cX6_reasonAgainst 150 = .ok (.getfield 18, 3) := by decide +kernel
theorem dX6_reasonAgainst_153 : decode cX6_reasonAgainst 153 = .ok (.getfield 79, 3) := by decide +kernel
theorem dX6_reasonAgainst_156 : decode cX6_reasonAgainst 156 = .ok (.aload_n 1, 1) := by decide +kernel
theorem dX6_reasonAgainst_157 : decode cX6_reasonAgainst 157 = .ok (.getfield 82, 3) := by decide +kernel
theorem dX6_reasonAgainst_160 : decode cX6_reasonAgainst 160 = .ok (.if_icmp .ge 5, 3) := by decide +kernel
theorem dX6_reasonAgainst_163 : decode cX6_reasonAgainst 163 = .ok (.iconst 4, 1) := by decide +kernel
theorem dX6_reasonAgainst_164 : decode cX6_reasonAgainst 164 = .ok (.ireturn, 1) := by decide +kernel
theorem dX6_reasonAgainst_165 : decode cX6_reasonAgainst 165 = .ok (.aload_n 1, 1) := by decide +kernel
theorem dX6_reasonAgainst_166 : decode cX6_reasonAgainst 166 = .ok (.getfield 85, 3) := by decide +kernel
theorem dX6_reasonAgainst_169 : decode cX6_reasonAgainst 169 = .ok (.getfield 89, 3) := by decide +kernel
theorem dX6_reasonAgainst_172 : decode cX6_reasonAgainst 172 = .ok (.iload_n 2, 1) := by decide +kernel
theorem dX6_reasonAgainst_173 : decode cX6_reasonAgainst 173 = .ok (.iadd, 1) := by decide +kernel
theorem dX6_reasonAgainst_174 : decode cX6_reasonAgainst 174 = .ok (.bipush 16, 2) := by decide +kernel
theorem dX6_reasonAgainst_176 : decode cX6_reasonAgainst 176 = .ok (.if_icmp .lt 5, 3) := by decide +kernel
theorem dX6_reasonAgainst_179 : decode cX6_reasonAgainst 179 = .ok (.iconst 5, 1) := by decide +kernel
theorem dX6_reasonAgainst_180 : decode cX6_reasonAgainst 180 = .ok (.ireturn, 1) := by decide +kernel
theorem dX6_reasonAgainst_181 : decode cX6_reasonAgainst 181 = .ok (.aload_n 1, 1) := by decide +kernel
theorem dX6_reasonAgainst_182 : decode cX6_reasonAgainst 182 = .ok (.getfield 94, 3) := by decide +kernel
theorem dX6_reasonAgainst_185 : decode cX6_reasonAgainst 185 = .ok (.iload_n 3, 1) := by decide +kernel
theorem dX6_reasonAgainst_186 : decode cX6_reasonAgainst 186 = .ok (.iadd, 1) := by decide +kernel
theorem dX6_reasonAgainst_187 : decode cX6_reasonAgainst 187 = .ok (.aload_n 0, 1) := by decide +kernel
theorem dX6_reasonAgainst_188 : decode cX6_reasonAgainst 188 = .ok (.getfield 18, 3) := by decide +kernel
theorem dX6_reasonAgainst_191 : decode cX6_reasonAgainst 191 = .ok (.invokevirtual 43, 3) := by decide +kernel
theorem dX6_reasonAgainst_194 : decode cX6_reasonAgainst 194 = .ok (.iadd, 1) := by decide +kernel
theorem dX6_reasonAgainst_195 : decode cX6_reasonAgainst 195 = .ok (.ldc 97, 2) := by decide +kernel
theorem dX6_reasonAgainst_197 : decode cX6_reasonAgainst 197 = .ok (.if_icmp .le 6, 3) := by decide +kernel
theorem dX6_reasonAgainst_200 : decode cX6_reasonAgainst 200 = .ok (.bipush 6, 2) := by decide +kernel
theorem dX6_reasonAgainst_202 : decode cX6_reasonAgainst 202 = .ok (.ireturn, 1) := by decide +kernel
theorem dX6_reasonAgainst_203 : decode cX6_reasonAgainst 203 = .ok (.iconst 0, 1) := by decide +kernel
theorem dX6_reasonAgainst_204 : decode cX6_reasonAgainst 204 = .ok (.ireturn, 1) := by decide +kernel
set_option maxRecDepth 20000 in
theorem ggX6_readEntry_X6_readSign : GoodIn wsX6_readEntry wsX6_readSign := goodIn_r _ [5, 6, 7, 8, 40, 41, 42, 43, 44, 45] (by decide +kernel) (by decide +kernel)
set_option maxRecDepth 20000 in
theorem gX6_readEntry_X6_readSign : GoodIn wsX6_readEntry (wsV RX6 98 RX6 yX6_readSign wsX6_readSign) := goodIn_app (goodIn_of _ (by decide +kernel)) ggX6_readEntry_X6_readSign
set_option maxRecDepth 20000 in
theorem ggX6_readEntry_X6_readSound : GoodIn wsX6_readEntry wsX6_readSound := goodIn_r _ [12, 13, 14, 15, 16, 4, 17, 6, 7, 8, 18, 19, 20, 21, 1, 2, 3, 5, 22, 23, 24, 25, 26, 27, 28, 29, 30, 31, 40, 41, 42, 43, 44, 45, 46, 47, 48, 49, 50] (by decide +kernel) (by decide +kernel)
set_option maxRecDepth 20000 in
theorem gX6_readEntry_X6_readSound : GoodIn wsX6_readEntry (wsV RX6 102 RX6 yX6_readSound wsX6_readSound) := goodIn_app (goodIn_of _ (by decide +kernel)) ggX6_readEntry_X6_readSound
set_option maxRecDepth 20000 in
theorem ggX6_readEntry_X6_readTarget : GoodIn wsX6_readEntry wsX6_readTarget := goodIn_r _ [35, 13, 14, 15, 16, 4, 17, 6, 7, 8, 18, 19, 20, 21, 1, 2, 3, 5, 36, 37, 38, 25, 39, 27, 28, 29, 30, 31, 40, 41, 42, 43, 44, 45, 46, 47, 48, 49, 50] (by decide +kernel) (by decide +kernel)
set_option maxRecDepth 20000 in
theorem gX6_readEntry_X6_readTarget : GoodIn wsX6_readEntry (wsV RX6 105 RX6 yX6_readTarget wsX6_readTarget) := goodIn_app (goodIn_of _ (by decide +kernel)) ggX6_readEntry_X6_readTarget
theorem dX6_readEntry_0 : decode cX6_readEntry 0 = .ok (.aload_n 0, 1) := by decide +kernel
theorem dX6_readEntry_1 : decode cX6_readEntry 1 = .ok (.bipush 115, 2) := by decide +kernel
theorem dX6_readEntry_3 : decode cX6_readEntry 3 = .ok (.invokevirtual 98, 3) := by decide +kernel
theorem dX6_readEntry_6 : decode cX6_readEntry 6 = .ok (.ifCond .eq 8, 3) := by decide +kernel
theorem dX6_readEntry_9 : decode cX6_readEntry 9 = .ok (.aload_n 0, 1) := by decide +kernel
theorem dX6_readEntry_10 : decode cX6_readEntry 10 = .ok (.invokevirtual 102, 3) := by decide +kernel
theorem dX6_readEntry_13 : decode cX6_readEntry 13 = .ok (.ireturn, 1) := by decide +kernel
theorem dX6_readEntry_14 : decode cX6_readEntry 14 = .ok (.aload_n 0, 1) := by decide +kernel
theorem dX6_readEntry_15 : decode cX6_readEntry 15 = .ok (.bipush 100, 2) := by decide +kernel
theorem dX6_readEntry_17 : decode cX6_readEntry 17 = .ok (.invokevirtual 98, 3) := by decide +kernel
theorem dX6_readEntry_20 : decode cX6_readEntry 20 = .ok (.ifCond .eq 14, 3) := by decide +kernel
theorem dX6_readEntry_23 : decode cX6_readEntry 23 = .ok (.aload_n 0, 1) := by decide +kernel
theorem dX6_readEntry_24 : decode cX6_readEntry 24 = .ok (.invokevirtual 105, 3) := by decide +kernel
theorem dX6_readEntry_27 : decode cX6_readEntry 27 = .ok (.ifCond .eq 7, 3) := by decide +kernel
theorem dX6_readEntry_30 : decode cX6_readEntry 30 = .ok (.iconst 1, 1) := by decide +kernel
theorem dX6_readEntry_31 : decode cX6_readEntry 31 = .ok (.goto 4, 3) := by decide +kernel
theorem dX6_readEntry_34 : decode cX6_readEntry 34 = .ok (.iconst 0, 1) := by decide +kernel
theorem dX6_readEntry_35 : decode cX6_readEntry 35 = .ok (.ireturn, 1) := by decide +kernel
set_option maxRecDepth 20000 in
theorem ggX6_readSound_X6_readNumber : GoodIn wsX6_readSound wsX6_readNumber := goodIn_r _ [6, 7, 8, 9, 10, 11, 12, 13, 28, 29, 30, 31, 32, 33] (by decide +kernel) (by decide +kernel)
set_option maxRecDepth 20000 in
theorem gX6_readSound_X6_readNumber : GoodIn wsX6_readSound (wsV RX6 108 RX6 yX6_readNumber wsX6_readNumber) := goodIn_app (goodIn_of _ (by decide +kernel)) ggX6_readSound_X6_readNumber
set_option maxRecDepth 20000 in
theorem ggX6_readSound_X6_readSign : GoodIn wsX6_readSound wsX6_readSign := goodIn_r _ [17, 7, 8, 9, 28, 29, 30, 31, 32, 33] (by decide +kernel) (by decide +kernel)
set_option maxRecDepth 20000 in
theorem gX6_readSound_X6_readSign : GoodIn wsX6_readSound (wsV RX6 98 RX6 yX6_readSign wsX6_readSign) := goodIn_app (goodIn_of _ (by decide +kernel)) ggX6_readSound_X6_readSign
set_option maxRecDepth 20000 in
theorem ggX6_readSound_X1_becomeSound : GoodIn wsX6_readSound wsX1_becomeSound := goodIn_r _ [22, 23, 24, 25, 26, 27, 34, 35, 36, 37, 38] (by decide +kernel) (by decide +kernel)
set_option maxRecDepth 20000 in
theorem gX6_readSound_X1_becomeSound : GoodIn wsX6_readSound (wsV RX6 112 RX1 yX1_becomeSound wsX1_becomeSound) := goodIn_app (goodIn_of _ (by decide +kernel)) ggX6_readSound_X1_becomeSound
theorem dX6_readSound_0 : decode cX6_readSound 0 = .ok (.aload_n 0, 1) := by decide +kernel
theorem dX6_readSound_1 : decode cX6_readSound 1 = .ok (.iconst 2, 1) := by decide +kernel
theorem dX6_readSound_2 : decode cX6_readSound 2 = .ok (.invokevirtual 108, 3) := by decide +kernel
theorem dX6_readSound_5 : decode cX6_readSound 5 = .ok (.istore_n 1, 1) := by decide +kernel
theorem dX6_readSound_6 : decode cX6_readSound 6 = .ok (.aload_n 0, 1) := by decide +kernel
theorem dX6_readSound_7 : decode cX6_readSound 7 = .ok (.bipush 64, 2) := by decide +kernel
theorem dX6_readSound_9 : decode cX6_readSound 9 = .ok (.invokevirtual 98, 3) := by decide +kernel
theorem dX6_readSound_12 : decode cX6_readSound 12 = .ok (.istore_n 2, 1) := by decide +kernel
theorem dX6_readSound_13 : decode cX6_readSound 13 = .ok (.aload_n 0, 1) := by decide +kernel
theorem dX6_readSound_14 : decode cX6_readSound 14 = .ok (.iconst 4, 1) := by decide +kernel
theorem dX6_readSound_15 : decode cX6_readSound 15 = .ok (.invokevirtual 108, 3) := by decide +kernel
theorem dX6_readSound_18 : decode cX6_readSound 18 = .ok (.istore_n 3, 1) := by decide +kernel
theorem dX6_readSound_19 : decode cX6_readSound 19 = .ok (.iload_n 2, 1) := by decide +kernel
theorem dX6_readSound_20 : decode cX6_readSound 20 = .ok (.ifCond .eq 16, 3) := by decide +kernel
theorem dX6_readSound_23 : decode cX6_readSound 23 = .ok (.aload_n 0, 1) := by decide +kernel
theorem dX6_readSound_24 : decode cX6_readSound 24 = .ok (.bipush 42, 2) := by decide +kernel
theorem dX6_readSound_26 : decode cX6_readSound 26 = .ok (.invokevirtual 98, 3) := by decide +kernel
theorem dX6_readSound_29 : decode cX6_readSound 29 = .ok (.ifCond .eq 7, 3) := by decide +kernel
theorem dX6_readSound_32 : decode cX6_readSound 32 = .ok (.iconst 1, 1) := by decide +kernel
theorem dX6_readSound_33 : decode cX6_readSound 33 = .ok (.goto 4, 3) := by decide +kernel
theorem dX6_readSound_36 : decode cX6_readSound 36 = .ok (.iconst 0, 1) := by decide +kernel
theorem dX6_readSound_37 : decode cX6_readSound 37 = .ok (.istore_n 2, 1) := by decide +kernel
theorem dX6_readSound_38 : decode cX6_readSound 38 = .ok (.aload_n 0, 1) := by decide +kernel
theorem dX6_readSound_39 : decode cX6_readSound 39 = .ok (.iconst 2, 1) := by decide +kernel
theorem dX6_readSound_40 : decode cX6_readSound 40 = .ok (.invokevirtual 108, 3) := by decide +kernel
theorem dX6_readSound_43 : decode cX6_readSound 43 = .ok (.istore 4, 2) := by decide +kernel
theorem dX6_readSound_45 : decode cX6_readSound 45 = .ok (.iload_n 2, 1) := by decide +kernel
theorem dX6_readSound_46 : decode cX6_readSound 46 = .ok (.ifCond .eq 16, 3) := by decide +kernel
theorem dX6_readSound_49 : decode cX6_readSound 49 = .ok (.aload_n 0, 1) := by decide +kernel
theorem dX6_readSound_50 : decode cX6_readSound 50 = .ok (.bipush 61, 2) := by decide +kernel
theorem dX6_readSound_52 : decode cX6_readSound 52 = .ok (.invokevirtual 98, 3) := by decide +kernel
theorem dX6_readSound_55 : decode cX6_readSound 55 = .ok (.ifCond .eq 7, 3) := by decide +kernel
theorem dX6_readSound_58 : decode cX6_readSound 58 = .ok (.iconst 1, 1) := by decide +kernel
theorem dX6_readSound_59 : decode cX6_readSound 59 = .ok (.goto 4, 3) := by decide +kernel
theorem dX6_readSound_62 : decode cX6_readSound 62 = .ok (.iconst 0, 1) := by decide +kernel
theorem dX6_readSound_63 : decode cX6_readSound 63 = .ok (.istore_n 2, 1) := by decide +kernel
theorem dX6_readSound_64 : decode cX6_readSound 64 = .ok (.aload_n 0, 1) := by decide +kernel
theorem dX6_readSound_65 : decode cX6_readSound 65 = .ok (.bipush 7, 2) := by decide +kernel
theorem dX6_readSound_67 : decode cX6_readSound 67 = .ok (.invokevirtual 108, 3) := by decide +kernel
theorem dX6_readSound_70 : decode cX6_readSound 70 = .ok (.istore 5, 2) := by decide +kernel
theorem dX6_readSound_72 : decode cX6_readSound 72 = .ok (.iload_n 2, 1) := by decide +kernel
theorem dX6_readSound_73 : decode cX6_readSound 73 = .ok (.ifCond .eq 16, 3) := by decide +kernel
theorem dX6_readSound_76 : decode cX6_readSound 76 = .ok (.aload_n 0, 1) := by decide +kernel
theorem dX6_readSound_77 : decode cX6_readSound 77 = .ok (.bipush 59, 2) := by decide +kernel
theorem dX6_readSound_79 : decode cX6_readSound 79 = .ok (.invokevirtual 98, 3) := by decide +kernel
theorem dX6_readSound_82 : decode cX6_readSound 82 = .ok (.ifCond .eq 7, 3) := by decide +kernel
theorem dX6_readSound_85 : decode cX6_readSound 85 = .ok (.iconst 1, 1) := by decide +kernel
theorem dX6_readSound_86 : decode cX6_readSound 86 = .ok (.goto 4, 3) := by decide +kernel
theorem dX6_readSound_89 : decode cX6_readSound 89 = .ok (.iconst 0, 1) := by decide +kernel
theorem dX6_readSound_90 : decode cX6_readSound 90 = .ok (.istore_n 2, 1) := by decide +kernel
theorem dX6_readSound_91 : decode cX6_readSound 91 = .ok (.aload_n 0, 1) := by decide +kernel
theorem dX6_readSound_92 : decode cX6_readSound 92 = .ok (.getfield 18, 3) := by decide +kernel
theorem dX6_readSound_95 : decode cX6_readSound 95 = .ok (.iload_n 1, 1) := by decide +kernel
theorem dX6_readSound_96 : decode cX6_readSound 96 = .ok (.iload_n 3, 1) := by decide +kernel
theorem dX6_readSound_97 : decode cX6_readSound 97 = .ok (.iload 4, 2) := by decide +kernel
theorem dX6_readSound_99 : decode cX6_readSound 99 = .ok (.iload 5, 2) := by decide +kernel
theorem dX6_readSound_101 : decode cX6_readSound 101 = .ok (.invokevirtual 112, 3) := by decide +kernel
theorem dX6_readSound_104 : decode cX6_readSound 104 = .ok (.iload_n 2, 1) := by decide +kernel
theorem dX6_readSound_105 : decode cX6_readSound 105 = .ok (.ifCond .eq 25, 3) := by decide +kernel
theorem dX6_readSound_108 : decode cX6_readSound 108 = .ok (.iload_n 1, 1) := by decide +kernel
theorem dX6_readSound_109 : decode cX6_readSound 109 = .ok (.ifCond .lt 21, 3) := by decide +kernel
theorem dX6_readSound_112 : decode cX6_readSound 112 = .ok (.iload_n 3, 1) := by decide +kernel
theorem dX6_readSound_113 : decode cX6_readSound 113 = .ok (.ifCond .lt 17, 3) := by decide +kernel
theorem dX6_readSound_116 : decode cX6_readSound 116 = .ok (.iload 4, 2) := by decide +kernel
theorem dX6_readSound_118 : decode cX6_readSound 118 = .ok (.ifCond .lt 12, 3) := by decide +kernel
theorem dX6_readSound_121 : decode cX6_readSound 121 = .ok (.iload 5, 2) := by decide +kernel
theorem dX6_readSound_123 : decode cX6_readSound 123 = .ok (.ifCond .lt 7, 3) := by decide +kernel
theorem dX6_readSound_126 : decode cX6_readSound 126 = .ok (.iconst 1, 1) := by decide +kernel
theorem dX6_readSound_127 : decode cX6_readSound 127 = .ok (.goto 4, 3) := by decide +kernel
theorem dX6_readSound_130 : decode cX6_readSound 130 = .ok (.iconst 0, 1) := by decide +kernel
theorem dX6_readSound_131 : decode cX6_readSound 131 = .ok (.ireturn, 1) := by decide +kernel
set_option maxRecDepth 20000 in
theorem ggX6_readTarget_X6_readNumber : GoodIn wsX6_readTarget wsX6_readNumber := goodIn_r _ [6, 7, 8, 9, 10, 11, 12, 13, 28, 29, 30, 31, 32, 33] (by decide +kernel) (by decide +kernel)
set_option maxRecDepth 20000 in
theorem gX6_readTarget_X6_readNumber : GoodIn wsX6_readTarget (wsV RX6 108 RX6 yX6_readNumber wsX6_readNumber) := goodIn_app (goodIn_of _ (by decide +kernel)) ggX6_readTarget_X6_readNumber
set_option maxRecDepth 20000 in
theorem ggX6_readTarget_X6_readSign : GoodIn wsX6_readTarget wsX6_readSign := goodIn_r _ [17, 7, 8, 9, 28, 29, 30, 31, 32, 33] (by decide +kernel) (by decide +kernel)
set_option maxRecDepth 20000 in
theorem gX6_readTarget_X6_readSign : GoodIn wsX6_readTarget (wsV RX6 98 RX6 yX6_readSign wsX6_readSign) := goodIn_app (goodIn_of _ (by decide +kernel)) ggX6_readTarget_X6_readSign
set_option maxRecDepth 20000 in
theorem ggX6_readTarget_X1_becomeTarget : GoodIn wsX6_readTarget wsX1_becomeTarget := goodIn_r _ [22, 23, 24, 25, 26, 27, 34, 35, 36, 37, 38] (by decide +kernel) (by decide +kernel)
set_option maxRecDepth 20000 in
theorem gX6_readTarget_X1_becomeTarget : GoodIn wsX6_readTarget (wsV RX6 116 RX1 yX1_becomeTarget wsX1_becomeTarget) := goodIn_app (goodIn_of _ (by decide +kernel)) ggX6_readTarget_X1_becomeTarget
theorem dX6_readTarget_0 : decode cX6_readTarget 0 = .ok (.aload_n 0, 1) := by decide +kernel
theorem dX6_readTarget_1 : decode cX6_readTarget 1 = .ok (.iconst 2, 1) := by decide +kernel
theorem dX6_readTarget_2 : decode cX6_readTarget 2 = .ok (.invokevirtual 108, 3) := by decide +kernel
theorem dX6_readTarget_5 : decode cX6_readTarget 5 = .ok (.istore_n 1, 1) := by decide +kernel
theorem dX6_readTarget_6 : decode cX6_readTarget 6 = .ok (.aload_n 0, 1) := by decide +kernel
theorem dX6_readTarget_7 : decode cX6_readTarget 7 = .ok (.bipush 64, 2) := by decide +kernel
theorem dX6_readTarget_9 : decode cX6_readTarget 9 = .ok (.invokevirtual 98, 3) := by decide +kernel
theorem dX6_readTarget_12 : decode cX6_readTarget 12 = .ok (.istore_n 2, 1) := by decide +kernel
theorem dX6_readTarget_13 : decode cX6_readTarget 13 = .ok (.aload_n 0, 1) := by decide +kernel
theorem dX6_readTarget_14 : decode cX6_readTarget 14 = .ok (.iconst 4, 1) := by decide +kernel
theorem dX6_readTarget_15 : decode cX6_readTarget 15 = .ok (.invokevirtual 108, 3) := by decide +kernel
theorem dX6_readTarget_18 : decode cX6_readTarget 18 = .ok (.istore_n 3, 1) := by decide +kernel
theorem dX6_readTarget_19 : decode cX6_readTarget 19 = .ok (.iload_n 2, 1) := by decide +kernel
theorem dX6_readTarget_20 : decode cX6_readTarget 20 = .ok (.ifCond .eq 16, 3) := by decide +kernel
theorem dX6_readTarget_23 : decode cX6_readTarget 23 = .ok (.aload_n 0, 1) := by decide +kernel
theorem dX6_readTarget_24 : decode cX6_readTarget 24 = .ok (.bipush 58, 2) := by decide +kernel
theorem dX6_readTarget_26 : decode cX6_readTarget 26 = .ok (.invokevirtual 98, 3) := by decide +kernel
theorem dX6_readTarget_29 : decode cX6_readTarget 29 = .ok (.ifCond .eq 7, 3) := by decide +kernel
theorem dX6_readTarget_32 : decode cX6_readTarget 32 = .ok (.iconst 1, 1) := by decide +kernel
theorem dX6_readTarget_33 : decode cX6_readTarget 33 = .ok (.goto 4, 3) := by decide +kernel
theorem dX6_readTarget_36 : decode cX6_readTarget 36 = .ok (.iconst 0, 1) := by decide +kernel
theorem dX6_readTarget_37 : decode cX6_readTarget 37 = .ok (.istore_n 2, 1) := by decide +kernel
theorem dX6_readTarget_38 : decode cX6_readTarget 38 = .ok (.aload_n 0, 1) := by decide +kernel
theorem dX6_readTarget_39 : decode cX6_readTarget 39 = .ok (.iconst 2, 1) := by decide +kernel
theorem dX6_readTarget_40 : decode cX6_readTarget 40 = .ok (.invokevirtual 108, 3) := by decide +kernel
theorem dX6_readTarget_43 : decode cX6_readTarget 43 = .ok (.istore 4, 2) := by decide +kernel
theorem dX6_readTarget_45 : decode cX6_readTarget 45 = .ok (.iload_n 2, 1) := by decide +kernel
theorem dX6_readTarget_46 : decode cX6_readTarget 46 = .ok (.ifCond .eq 16, 3) := by decide +kernel
theorem dX6_readTarget_49 : decode cX6_readTarget 49 = .ok (.aload_n 0, 1) := by decide +kernel
theorem dX6_readTarget_50 : decode cX6_readTarget 50 = .ok (.bipush 59, 2) := by decide +kernel
theorem dX6_readTarget_52 : decode cX6_readTarget 52 = .ok (.invokevirtual 98, 3) := by decide +kernel
theorem dX6_readTarget_55 : decode cX6_readTarget 55 = .ok (.ifCond .eq 7, 3) := by decide +kernel
theorem dX6_readTarget_58 : decode cX6_readTarget 58 = .ok (.iconst 1, 1) := by decide +kernel
theorem dX6_readTarget_59 : decode cX6_readTarget 59 = .ok (.goto 4, 3) := by decide +kernel
theorem dX6_readTarget_62 : decode cX6_readTarget 62 = .ok (.iconst 0, 1) := by decide +kernel
theorem dX6_readTarget_63 : decode cX6_readTarget 63 = .ok (.istore_n 2, 1) := by decide +kernel
theorem dX6_readTarget_64 : decode cX6_readTarget 64 = .ok (.aload_n 0, 1) := by decide +kernel
theorem dX6_readTarget_65 : decode cX6_readTarget 65 = .ok (.getfield 18, 3) := by decide +kernel
theorem dX6_readTarget_68 : decode cX6_readTarget 68 = .ok (.iload_n 1, 1) := by decide +kernel
theorem dX6_readTarget_69 : decode cX6_readTarget 69 = .ok (.iload_n 3, 1) := by decide +kernel
theorem dX6_readTarget_70 : decode cX6_readTarget 70 = .ok (.iload 4, 2) := by decide +kernel
theorem dX6_readTarget_72 : decode cX6_readTarget 72 = .ok (.invokevirtual 116, 3) := by decide +kernel
theorem dX6_readTarget_75 : decode cX6_readTarget 75 = .ok (.iload_n 2, 1) := by decide +kernel
theorem dX6_readTarget_76 : decode cX6_readTarget 76 = .ok (.ifCond .eq 20, 3) := by decide +kernel
theorem dX6_readTarget_79 : decode cX6_readTarget 79 = .ok (.iload_n 1, 1) := by decide +kernel
theorem dX6_readTarget_80 : decode cX6_readTarget 80 = .ok (.ifCond .lt 16, 3) := by decide +kernel
theorem dX6_readTarget_83 : decode cX6_readTarget 83 = .ok (.iload_n 3, 1) := by decide +kernel
theorem dX6_readTarget_84 : decode cX6_readTarget 84 = .ok (.ifCond .lt 12, 3) := by decide +kernel
theorem dX6_readTarget_87 : decode cX6_readTarget 87 = .ok (.iload 4, 2) := by decide +kernel
theorem dX6_readTarget_89 : decode cX6_readTarget 89 = .ok (.ifCond .lt 7, 3) := by decide +kernel
theorem dX6_readTarget_92 : decode cX6_readTarget 92 = .ok (.iconst 1, 1) := by decide +kernel
theorem dX6_readTarget_93 : decode cX6_readTarget 93 = .ok (.goto 4, 3) := by decide +kernel
theorem dX6_readTarget_96 : decode cX6_readTarget 96 = .ok (.iconst 0, 1) := by decide +kernel
theorem dX6_readTarget_97 : decode cX6_readTarget 97 = .ok (.ireturn, 1) := by decide +kernel
theorem dX6_readSign_0 : decode cX6_readSign 0 = .ok (.aload_n 0, 1) := by decide +kernel
theorem dX6_readSign_1 : decode cX6_readSign 1 = .ok (.getfield 29, 3) := by decide +kernel
theorem dX6_readSign_4 : decode cX6_readSign 4 = .ok (.ifCond .lt 39, 3) := by decide +kernel
theorem dX6_readSign_7 : decode cX6_readSign 7 = .ok (.aload_n 0, 1) := by decide +kernel
theorem dX6_readSign_8 : decode cX6_readSign 8 = .ok (.getfield 29, 3) := by decide +kernel
theorem dX6_readSign_11 : decode cX6_readSign 11 = .ok (.aload_n 0, 1) := by decide +kernel
theorem dX6_readSign_12 : decode cX6_readSign 12 = .ok (.getfield 22, 3) := by decide +kernel
theorem dX6_readSign_15 : decode cX6_readSign 15 = .ok (.if_icmp .ge 28, 3) := by decide +kernel
theorem dX6_readSign_18 : decode cX6_readSign 18 = .ok (.aload_n 0, 1) := by decide +kernel
theorem dX6_readSign_19 : decode cX6_readSign 19 = .ok (.getfield 29, 3) := by decide +kernel
theorem dX6_readSign_22 : decode cX6_readSign 22 = .ok (.aload_n 0, 1) := by decide +kernel
theorem dX6_readSign_23 : decode cX6_readSign 23 = .ok (.getfield 9, 3) := by decide +kernel
theorem dX6_readSign_26 : decode cX6_readSign 26 = .ok (.arraylength, 1) := by decide +kernel
theorem dX6_readSign_27 : decode cX6_readSign 27 = .ok (.if_icmp .ge 16, 3) := by decide +kernel
theorem dX6_readSign_30 : decode cX6_readSign 30 = .ok (.aload_n 0, 1) := by decide +kernel
theorem dX6_readSign_31 : decode cX6_readSign 31 = .ok (.getfield 9, 3) := by decide +kernel
theorem dX6_readSign_34 : decode cX6_readSign 34 = .ok (.aload_n 0, 1) := by decide +kernel
theorem dX6_readSign_35 : decode cX6_readSign 35 = .ok (.getfield 29, 3) := by decide +kernel
theorem dX6_readSign_38 : decode cX6_readSign 38 = .ok (.caload, 1) := by decide +kernel
theorem dX6_readSign_39 : decode cX6_readSign 39 = .ok (.iload_n 1, 1) := by decide +kernel
theorem dX6_readSign_40 : decode cX6_readSign 40 = .ok (.if_icmp .eq 5, 3) := by decide +kernel
theorem dX6_readSign_43 : decode cX6_readSign 43 = .ok (.iconst 0, 1) := by decide +kernel
theorem dX6_readSign_44 : decode cX6_readSign 44 = .ok (.ireturn, 1) := by decide +kernel
theorem dX6_readSign_45 : decode cX6_readSign 45 = .ok (.aload_n 0, 1) := by decide +kernel
theorem dX6_readSign_46 : decode cX6_readSign 46 = .ok (.dup, 1) := by decide +kernel
theorem dX6_readSign_47 : decode cX6_readSign 47 = .ok (.getfield 29, 3) := by decide +kernel
theorem dX6_readSign_50 : decode cX6_readSign 50 = .ok (.iconst 1, 1) := by decide +kernel
theorem dX6_readSign_51 : decode cX6_readSign 51 = .ok (.iadd, 1) := by decide +kernel
theorem dX6_readSign_52 : decode cX6_readSign 52 = .ok (.putfield 29, 3) := by decide +kernel
theorem dX6_readSign_55 : decode cX6_readSign 55 = .ok (.iconst 1, 1) := by decide +kernel
theorem dX6_readSign_56 : decode cX6_readSign 56 = .ok (.ireturn, 1) := by decide +kernel
theorem dX6_readNumber_0 : decode cX6_readNumber 0 = .ok (.iconst (-1), 1) := by decide +kernel
theorem dX6_readNumber_1 : decode cX6_readNumber 1 = .ok (.istore_n 2, 1) := by decide +kernel
theorem dX6_readNumber_2 : decode cX6_readNumber 2 = .ok (.iconst 0, 1) := by decide +kernel
theorem dX6_readNumber_3 : decode cX6_readNumber 3 = .ok (.istore_n 3, 1) := by decide +kernel
theorem dX6_readNumber_4 : decode cX6_readNumber 4 = .ok (.iload_n 3, 1) := by decide +kernel
theorem dX6_readNumber_5 : decode cX6_readNumber 5 = .ok (.iload_n 1, 1) := by decide +kernel
theorem dX6_readNumber_6 : decode cX6_readNumber 6 = .ok (.if_icmp .ge 89, 3) := by decide +kernel
theorem dX6_readNumber_9 : decode cX6_readNumber 9 = .ok (.aload_n 0, 1) := by decide +kernel
theorem dX6_readNumber_10 : decode cX6_readNumber 10 = .ok (.getfield 29, 3) := by decide +kernel
theorem dX6_readNumber_13 : decode cX6_readNumber 13 = .ok (.ifCond .lt 82, 3) := by decide +kernel
theorem dX6_readNumber_16 : decode cX6_readNumber 16 = .ok (.aload_n 0, 1) := by decide +kernel
theorem dX6_readNumber_17 : decode cX6_readNumber 17 = .ok (.getfield 29, 3) := by decide +kernel
theorem dX6_readNumber_20 : decode cX6_readNumber 20 = .ok (.aload_n 0, 1) := by decide +kernel
theorem dX6_readNumber_21 : decode cX6_readNumber 21 = .ok (.getfield 22, 3) := by decide +kernel
theorem dX6_readNumber_24 : decode cX6_readNumber 24 = .ok (.if_icmp .ge 71, 3) := by decide +kernel
theorem dX6_readNumber_27 : decode cX6_readNumber 27 = .ok (.aload_n 0, 1) := by decide +kernel
theorem dX6_readNumber_28 : decode cX6_readNumber 28 = .ok (.getfield 29, 3) := by decide +kernel
theorem dX6_readNumber_31 : decode cX6_readNumber 31 = .ok (.aload_n 0, 1) := by decide +kernel
theorem dX6_readNumber_32 : decode cX6_readNumber 32 = .ok (.getfield 9, 3) := by decide +kernel
theorem dX6_readNumber_35 : decode cX6_readNumber 35 = .ok (.arraylength, 1) := by decide +kernel
theorem dX6_readNumber_36 : decode cX6_readNumber 36 = .ok (.if_icmp .ge 59, 3) := by decide +kernel
theorem dX6_readNumber_39 : decode cX6_readNumber 39 = .ok (.aload_n 0, 1) := by decide +kernel
theorem dX6_readNumber_40 : decode cX6_readNumber 40 = .ok (.getfield 9, 3) := by decide +kernel
theorem dX6_readNumber_43 : decode cX6_readNumber 43 = .ok (.aload_n 0, 1) := by decide +kernel
theorem dX6_readNumber_44 : decode cX6_readNumber 44 = .ok (.getfield 29, 3) := by decide +kernel
theorem dX6_readNumber_47 : decode cX6_readNumber 47 = .ok (.caload, 1) := by decide +kernel
theorem dX6_readNumber_48 : decode cX6_readNumber 48 = .ok (.bipush 48, 2) := by decide +kernel
theorem dX6_readNumber_50 : decode cX6_readNumber 50 = .ok (.isub, 1) := by decide +kernel
theorem dX6_readNumber_51 : decode cX6_readNumber 51 = .ok (.istore 4, 2) := by decide +kernel
theorem dX6_readNumber_53 : decode cX6_readNumber 53 = .ok (.iload 4, 2) := by decide +kernel
theorem dX6_readNumber_55 : decode cX6_readNumber 55 = .ok (.ifCond .lt 10, 3) := by decide +kernel
theorem dX6_readNumber_58 : decode cX6_readNumber 58 = .ok (.iload 4, 2) := by decide +kernel
theorem dX6_readNumber_60 : decode cX6_readNumber 60 = .ok (.bipush 9, 2) := by decide +kernel
theorem dX6_readNumber_62 : decode cX6_readNumber 62 = .ok (.if_icmp .le 5, 3) := by decide +kernel
theorem dX6_readNumber_65 : decode cX6_readNumber 65 = .ok (.iload_n 2, 1) := by decide +kernel
theorem dX6_readNumber_66 : decode cX6_readNumber 66 = .ok (.ireturn, 1) := by decide +kernel
theorem dX6_readNumber_67 : decode cX6_readNumber 67 = .ok (.iload_n 2, 1) := by decide +kernel
theorem dX6_readNumber_68 : decode cX6_readNumber 68 = .ok (.iconst 0, 1) := by decide +kernel
theorem dX6_readNumber_69 : decode cX6_readNumber 69 = .ok (.invokestatic 120, 3) := by decide +kernel
theorem dX6_readNumber_72 : decode cX6_readNumber 72 = .ok (.bipush 10, 2) := by decide +kernel
theorem dX6_readNumber_74 : decode cX6_readNumber 74 = .ok (.imul, 1) := by decide +kernel
theorem dX6_readNumber_75 : decode cX6_readNumber 75 = .ok (.iload 4, 2) := by decide +kernel
theorem dX6_readNumber_77 : decode cX6_readNumber 77 = .ok (.iadd, 1) := by decide +kernel
theorem dX6_readNumber_78 : decode cX6_readNumber 78 = .ok (.istore_n 2, 1) := by decide +kernel
theorem dX6_readNumber_79 : decode cX6_readNumber 79 = .ok (.aload_n 0, 1) := by decide +kernel
theorem dX6_readNumber_80 : decode cX6_readNumber 80 = .ok (.dup, 1) := by decide +kernel
theorem dX6_readNumber_81 : decode cX6_readNumber 81 = .ok (.getfield 29, 3) := by decide +kernel
theorem dX6_readNumber_84 : decode cX6_readNumber 84 = .ok (.iconst 1, 1) := by decide +kernel
theorem dX6_readNumber_85 : decode cX6_readNumber 85 = .ok (.iadd, 1) := by decide +kernel
theorem dX6_readNumber_86 : decode cX6_readNumber 86 = .ok (.putfield 29, 3) := by decide +kernel
theorem dX6_readNumber_89 : decode cX6_readNumber 89 = .ok (.iinc 3 1, 3) := by decide +kernel
theorem dX6_readNumber_92 : decode cX6_readNumber 92 = .ok (.goto (-88), 3) := by decide +kernel
theorem dX6_readNumber_95 : decode cX6_readNumber 95 = .ok (.iload_n 2, 1) := by decide +kernel
theorem dX6_readNumber_96 : decode cX6_readNumber 96 = .ok (.ireturn, 1) := by decide +kernel
set_option maxRecDepth 20000 in
theorem ggX7_init_X3_init : GoodIn wsX7_init wsX3_init := goodIn_r _ [23, 24, 2, 3, 25, 26, 27, 28, 29, 30, 31, 32, 33, 34, 35, 36, 37, 38, 39, 40, 41, 42, 43, 44, 45, 18, 19, 46, 47, 48, 49, 50, 51, 52, 53, 54, 55, 56, 57, 58, 59, 74, 75, 76, 77, 78, 79, 80, 81, 82, 83, 102, 103, 104, 105, 106, 107, 108, 109, 110, 111, 112, 113, 114, 115, 116, 117, 118, 119, 120, 97, 98, 99, 100, 101] (by decide +kernel) (by decide +kernel)
set_option maxRecDepth 20000 in
theorem gX7_init_X3_init : GoodIn wsX7_init (wsX3_init) := ggX7_init_X3_init
set_option maxRecDepth 20000 in
theorem ggX7_init_X2_init : GoodIn wsX7_init wsX2_init := goodIn_r _ [62, 63, 2, 3, 64, 65, 5, 6, 66, 22, 23, 24, 25, 26, 27, 28, 29, 30, 31, 32, 33, 34, 35, 36, 37, 38, 39, 40, 41, 42, 43, 44, 45, 18, 19, 46, 47, 48, 49, 50, 51, 52, 53, 54, 55, 56, 57, 58, 59, 89, 90, 74, 75, 76, 77, 78, 79, 80, 81, 82, 83, 102, 103, 104, 105, 106, 107, 108, 109, 110, 111, 112, 113, 114, 115, 116, 117, 118, 119, 120, 97, 98, 99, 100, 101] (by decide +kernel) (by decide +kernel)
set_option maxRecDepth 20000 in
theorem gX7_init_X2_init : GoodIn wsX7_init (wsX2_init) := ggX7_init_X2_init
set_option maxRecDepth 20000 in
theorem ggX7_init_X6_init : GoodIn wsX7_init wsX6_init := goodIn_r _ [68, 69, 2, 3, 70, 71, 72, 18, 19, 73, 46, 47, 48, 91, 92, 93, 94, 95, 96, 97, 98, 99, 100, 101] (by decide +kernel) (by decide +kernel)
set_option maxRecDepth 20000 in
theorem gX7_init_X6_init_n28 : GoodIn wsX7_init (wsX6_init) := ggX7_init_X6_init
set_option maxRecDepth 20000 in
theorem ggX7_init_X1_init : GoodIn wsX7_init wsX1_init := goodIn_r _ [47, 48, 2, 3] (by decide +kernel) (by decide +kernel)
set_option maxRecDepth 20000 in
theorem gX7_init_X1_init_n35 : GoodIn wsX7_init (wsX1_init) := ggX7_init_X1_init
theorem dX7_init_0 : decode cX7_init 0 = .ok (.aload_n 0, 1) := by decide +kernel
theorem dX7_init_1 : decode cX7_init 1 = .ok (.invokespecial 1, 3) := by decide +kernel
theorem dX7_init_4 : decode cX7_init 4 = .ok (.aload_n 0, 1) := by decide +kernel
theorem dX7_init_5 : decode cX7_init 5 = .ok (.new 7, 3) := by decide +kernel
theorem dX7_init_8 : decode cX7_init 8 = .ok (.dup, 1) := by decide +kernel
theorem dX7_init_9 : decode cX7_init 9 = .ok (.invokespecial 9, 3) := by decide +kernel
theorem dX7_init_12 : decode cX7_init 12 = .ok (.putfield 10, 3) := by decide +kernel
theorem dX7_init_15 : decode cX7_init 15 = .ok (.aload_n 0, 1) := by decide +kernel
theorem dX7_init_16 : decode cX7_init 16 = .ok (.new 7, 3) := by decide +kernel
theorem dX7_init_19 : decode cX7_init 19 = .ok (.dup, 1) := by decide +kernel
theorem dX7_init_20 : decode cX7_init 20 = .ok (.invokespecial 9, 3) := by decide +kernel
theorem dX7_init_23 : decode cX7_init 23 = .ok (.putfield 16, 3) := by decide +kernel
theorem dX7_init_26 : decode cX7_init 26 = .ok (.aload_n 0, 1) := by decide +kernel
theorem dX7_init_27 : decode cX7_init 27 = .ok (.new 19, 3) := by decide +kernel
theorem dX7_init_30 : decode cX7_init 30 = .ok (.dup, 1) := by decide +kernel
theorem dX7_init_31 : decode cX7_init 31 = .ok (.invokespecial 21, 3) := by decide +kernel
theorem dX7_init_34 : decode cX7_init 34 = .ok (.putfield 22, 3) := by decide +kernel
theorem dX7_init_37 : decode cX7_init 37 = .ok (.aload_n 0, 1) := by decide +kernel
theorem dX7_init_38 : decode cX7_init 38 = .ok (.new 26, 3) := by decide +kernel
theorem dX7_init_41 : decode cX7_init 41 = .ok (.dup, 1) := by decide +kernel
theorem dX7_init_42 : decode cX7_init 42 = .ok (.invokespecial 28, 3) := by decide +kernel
theorem dX7_init_45 : decode cX7_init 45 = .ok (.putfield 29, 3) := by decide +kernel
theorem dX7_init_48 : decode cX7_init 48 = .ok (.aload_n 0, 1) := by decide +kernel
theorem dX7_init_49 : decode cX7_init 49 = .ok (.new 33, 3) := by decide +kernel
theorem dX7_init_52 : decode cX7_init 52 = .ok (.dup, 1) := by decide +kernel
theorem dX7_init_53 : decode cX7_init 53 = .ok (.invokespecial 35, 3) := by decide +kernel
theorem dX7_init_56 : decode cX7_init 56 = .ok (.putfield 36, 3) := by decide +kernel
theorem dX7_init_59 : decode cX7_init 59 = .ok (.return_, 1) := by decide +kernel
set_option maxRecDepth 20000 in
theorem ggX7_room_X7_isWithin : GoodIn wsX7_room wsX7_isWithin := goodIn_r _ [7] (by decide +kernel) (by decide +kernel)
set_option maxRecDepth 20000 in
theorem gX7_room_X7_isWithin : GoodIn wsX7_room (va_wsS RX7 40 yX7_isWithin wsX7_isWithin) := goodIn_app (goodIn_of _ (by decide +kernel)) ggX7_room_X7_isWithin
set_option maxRecDepth 20000 in
theorem ggX7_room_X2_record : GoodIn wsX7_room wsX2_record := goodIn_r _ [12, 13, 14, 15, 16, 17, 11, 18, 19, 20, 21, 22, 23, 24, 25, 26, 27, 28, 29, 30, 31, 32, 33, 34, 35, 36, 37, 38, 39, 40, 41, 42, 43, 44, 45, 46, 47, 48, 49, 50, 51, 52, 53, 54, 55, 56, 57, 58, 59, 60, 61, 62, 63, 64, 65, 66, 67, 68, 69, 70, 71, 72, 73, 74, 75, 76, 77, 78, 79, 80, 81, 82, 106, 107, 96, 97, 98, 99, 100, 101, 102, 103, 104, 105, 108, 109, 110, 111, 112, 113, 114, 115, 116, 117, 118, 119, 120, 121, 122, 123, 124, 125, 126, 127, 128, 129, 130, 131] (by decide +kernel) (by decide +kernel)
set_option maxRecDepth 20000 in
theorem gX7_room_X2_record : GoodIn wsX7_room (wsV RX7 48 RX2 yX2_record wsX2_record) := goodIn_app (goodIn_of _ (by decide +kernel)) ggX7_room_X2_record
set_option maxRecDepth 20000 in
theorem ggX7_room_X3_addRoom : GoodIn wsX7_room wsX3_addRoom := goodIn_r _ [86, 32, 24, 34, 87, 88, 89, 41, 90, 43, 44, 48, 96, 97, 98, 99, 100, 101, 102, 103, 104, 105, 108, 109, 110, 111, 112, 113, 114] (by decide +kernel) (by decide +kernel)
set_option maxRecDepth 20000 in
theorem gX7_room_X3_addRoom : GoodIn wsX7_room (wsV RX7 52 RX3 yX3_addRoom wsX3_addRoom) := goodIn_app (goodIn_of _ (by decide +kernel)) ggX7_room_X3_addRoom
theorem dX7_room_0 : decode cX7_room 0 = .ok (.iload_n 1, 1) := by decide +kernel
theorem dX7_room_1 : decode cX7_room 1 = .ok (.bipush 10, 2) := by decide +kernel
theorem dX7_room_3 : decode cX7_room 3 = .ok (.sipush 10000, 3) := by decide +kernel
theorem dX7_room_6 : decode cX7_room 6 = .ok (.invokestatic 40, 3) := by decide +kernel
theorem dX7_room_9 : decode cX7_room 9 = .ok (.ifCond .eq 14, 3) := by decide +kernel
theorem dX7_room_12 : decode cX7_room 12 = .ok (.iload_n 2, 1) := by decide +kernel
theorem dX7_room_13 : decode cX7_room 13 = .ok (.iconst 0, 1) := by decide +kernel
theorem dX7_room_14 : decode cX7_room 14 = .ok (.sipush 1000, 3) := by decide +kernel
theorem dX7_room_17 : decode cX7_room 17 = .ok (.invokestatic 40, 3) := by decide +kernel
theorem dX7_room_20 : decode cX7_room 20 = .ok (.ifCond .ne 5, 3) := by decide +kernel
theorem dX7_room_23 : decode cX7_room 23 = .ok (.iconst (-1), 1) := by decide +kernel
theorem dX7_room_24 : decode cX7_room 24 = .ok (.ireturn, 1) := by decide +kernel
theorem dX7_room_25 : decode cX7_room 25 = .ok (.aload_n 0, 1) := by decide +kernel
theorem dX7_room_26 : decode cX7_room 26 = .ok (.getfield 10, 3) := by decide +kernel
theorem dX7_room_29 : decode cX7_room 29 = .ok (.getfield 44, 3) := by decide +kernel
theorem dX7_room_32 : decode cX7_room 32 = .ok (.bipush 8, 2) := by decide +kernel
theorem dX7_room_34 : decode cX7_room 34 = .ok (.if_icmp .lt 6, 3) := by decide +kernel
theorem dX7_room_37 : decode cX7_room 37 = .ok (.bipush (-3), 2) := by decide +kernel
theorem dX7_room_39 : decode cX7_room 39 = .ok (.ireturn, 1) := by decide +kernel
theorem dX7_room_40 : decode cX7_room 40 = .ok (.aload_n 0, 1) := by decide +kernel
theorem dX7_room_41 : decode cX7_room 41 = .ok (.getfield 22, 3) := by decide +kernel
theorem dX7_room_44 : decode cX7_room 44 = .ok (.aload_n 0, 1) := by decide +kernel
theorem dX7_room_45 : decode cX7_room 45 = .ok (.getfield 10, 3) := by decide +kernel
theorem dX7_room_48 : decode cX7_room 48 = .ok (.invokevirtual 48, 3) := by decide +kernel
theorem dX7_room_51 : decode cX7_room 51 = .ok (.aload_n 0, 1) := by decide +kernel
theorem dX7_room_52 : decode cX7_room 52 = .ok (.getfield 10, 3) := by decide +kernel
theorem dX7_room_55 : decode cX7_room 55 = .ok (.iload_n 1, 1) := by decide +kernel
theorem dX7_room_56 : decode cX7_room 56 = .ok (.iload_n 2, 1) := by decide +kernel
theorem dX7_room_57 : decode cX7_room 57 = .ok (.invokevirtual 52, 3) := by decide +kernel
theorem dX7_room_60 : decode cX7_room 60 = .ok (.ireturn, 1) := by decide +kernel
set_option maxRecDepth 20000 in
theorem ggX7_door_X3_roomAt : GoodIn wsX7_door wsX3_roomAt := goodIn_r _ [8, 9, 10, 115, 116, 117, 118, 119, 120, 121, 122, 123, 124] (by decide +kernel) (by decide +kernel)
set_option maxRecDepth 20000 in
theorem gX7_door_X3_roomAt : GoodIn wsX7_door (wsV RX7 56 RX3 yX3_roomAt wsX3_roomAt) := goodIn_app (goodIn_of _ (by decide +kernel)) ggX7_door_X3_roomAt
set_option maxRecDepth 20000 in
theorem ggX7_door_X7_isRoomOrOutside : GoodIn wsX7_door wsX7_isRoomOrOutside := goodIn_r _ [15, 1, 4, 5, 6, 7, 8, 9, 10, 110, 111, 112, 113, 114, 115, 116, 117, 118, 119, 120, 121, 122, 123, 124] (by decide +kernel) (by decide +kernel)
set_option maxRecDepth 20000 in
theorem gX7_door_X7_isRoomOrOutside : GoodIn wsX7_door (wsV RX7 60 RX7 yX7_isRoomOrOutside wsX7_isRoomOrOutside) := goodIn_app (goodIn_of _ (by decide +kernel)) ggX7_door_X7_isRoomOrOutside
set_option maxRecDepth 20000 in
theorem ggX7_door_X7_isWithin : GoodIn wsX7_door wsX7_isWithin := goodIn_r _ [18] (by decide +kernel) (by decide +kernel)
set_option maxRecDepth 20000 in
theorem gX7_door_X7_isWithin : GoodIn wsX7_door (va_wsS RX7 40 yX7_isWithin wsX7_isWithin) := goodIn_app (goodIn_of _ (by decide +kernel)) ggX7_door_X7_isWithin
set_option maxRecDepth 20000 in
theorem ggX7_door_X3_hasWallFor : GoodIn wsX7_door wsX3_hasWallFor := goodIn_r _ [22, 23, 24, 25, 26, 5, 6, 7, 8, 9, 10, 27, 28, 29, 30, 31, 32, 33, 115, 116, 117, 118, 119, 120, 121, 122, 123, 124, 125, 126, 127, 128, 129, 130, 131, 132, 133, 134, 135, 136, 137, 138, 139, 140, 141] (by decide +kernel) (by decide +kernel)
set_option maxRecDepth 20000 in
theorem gX7_door_X3_hasWallFor : GoodIn wsX7_door (wsV RX7 64 RX3 yX3_hasWallFor wsX3_hasWallFor) := goodIn_app (goodIn_of _ (by decide +kernel)) ggX7_door_X3_hasWallFor
set_option maxRecDepth 20000 in
theorem ggX7_door_X2_record : GoodIn wsX7_door wsX2_record := goodIn_r _ [38, 39, 40, 41, 42, 43, 37, 44, 45, 46, 47, 7, 48, 10, 23, 49, 50, 51, 52, 53, 54, 9, 55, 56, 57, 58, 59, 60, 61, 62, 63, 64, 65, 66, 67, 68, 69, 70, 71, 72, 73, 74, 75, 30, 76, 32, 77, 78, 79, 80, 81, 33, 82, 83, 84, 85, 86, 87, 88, 89, 90, 91, 92, 93, 94, 95, 96, 97, 98, 99, 100, 101, 142, 143, 115, 116, 117, 118, 119, 120, 121, 122, 123, 124, 135, 136, 137, 138, 139, 140, 141, 125, 126, 127, 128, 129, 130, 131, 132, 133, 134, 144, 145, 146, 147, 148, 149, 150] (by decide +kernel) (by decide +kernel)
set_option maxRecDepth 20000 in
theorem gX7_door_X2_record : GoodIn wsX7_door (wsV RX7 48 RX2 yX2_record wsX2_record) := goodIn_app (goodIn_of _ (by decide +kernel)) ggX7_door_X2_record
set_option maxRecDepth 20000 in
theorem ggX7_door_X3_addDoor : GoodIn wsX7_door wsX3_addDoor := goodIn_r _ [105, 55, 23, 106, 107, 108, 30, 109, 33, 32, 77, 78, 115, 116, 117, 118, 119, 120, 121, 122, 123, 124, 125, 126, 127, 128, 129, 130, 131, 132, 133, 134] (by decide +kernel) (by decide +kernel)
set_option maxRecDepth 20000 in
theorem gX7_door_X3_addDoor : GoodIn wsX7_door (wsV RX7 71 RX3 yX3_addDoor wsX3_addDoor) := goodIn_app (goodIn_of _ (by decide +kernel)) ggX7_door_X3_addDoor
theorem dX7_door_0 : decode cX7_door 0 = .ok (.aload_n 0, 1) := by decide +kernel
theorem dX7_door_1 : decode cX7_door 1 = .ok (.getfield 10, 3) := by decide +kernel
theorem dX7_door_4 : decode cX7_door 4 = .ok (.iload_n 1, 1) := by decide +kernel
theorem dX7_door_5 : decode cX7_door 5 = .ok (.invokevirtual 56, 3) := by decide +kernel
theorem dX7_door_8 : decode cX7_door 8 = .ok (.ifnull 48, 3) := by decide +kernel
theorem dX7_door_11 : decode cX7_door 11 = .ok (.aload_n 0, 1) := by decide +kernel
theorem dX7_door_12 : decode cX7_door 12 = .ok (.iload_n 2, 1) := by decide +kernel
theorem dX7_door_13 : decode cX7_door 13 = .ok (.invokevirtual 60, 3) := by decide +kernel
theorem dX7_door_16 : decode cX7_door 16 = .ok (.ifCond .eq 40, 3) := by decide +kernel
theorem dX7_door_19 : decode cX7_door 19 = .ok (.iload_n 1, 1) := by decide +kernel
theorem dX7_door_20 : decode cX7_door 20 = .ok (.iload_n 2, 1) := by decide +kernel
theorem dX7_door_21 : decode cX7_door 21 = .ok (.if_icmp .eq 35, 3) := by decide +kernel
theorem dX7_door_24 : decode cX7_door 24 = .ok (.iload_n 3, 1) := by decide +kernel
theorem dX7_door_25 : decode cX7_door 25 = .ok (.iconst 1, 1) := by decide +kernel
theorem dX7_door_26 : decode cX7_door 26 = .ok (.sipush 1000, 3) := by decide +kernel
theorem dX7_door_29 : decode cX7_door 29 = .ok (.invokestatic 40, 3) := by decide +kernel
theorem dX7_door_32 : decode cX7_door 32 = .ok (.ifCond .eq 24, 3) := by decide +kernel
theorem dX7_door_35 : decode cX7_door 35 = .ok (.iload 4, 2) := by decide +kernel
theorem dX7_door_37 : decode cX7_door 37 = .ok (.iconst 1, 1) := by decide +kernel
theorem dX7_door_38 : decode cX7_door 38 = .ok (.bipush 10, 2) := by decide +kernel
theorem dX7_door_40 : decode cX7_door 40 = .ok (.invokestatic 40, 3) := by decide +kernel
theorem dX7_door_43 : decode cX7_door 43 = .ok (.ifCond .eq 13, 3) := by decide +kernel
theorem dX7_door_46 : decode cX7_door 46 = .ok (.iload 5, 2) := by decide +kernel
theorem dX7_door_48 : decode cX7_door 48 = .ok (.iconst 0, 1) := by decide +kernel
theorem dX7_door_49 : decode cX7_door 49 = .ok (.iconst 5, 1) := by decide +kernel
theorem dX7_door_50 : decode cX7_door 50 = .ok (.invokestatic 40, 3) := by decide +kernel
theorem dX7_door_53 : decode cX7_door 53 = .ok (.ifCond .ne 5, 3) := by decide +kernel
theorem dX7_door_56 : decode cX7_door 56 = .ok (.iconst (-1), 1) := by decide +kernel
theorem dX7_door_57 : decode cX7_door 57 = .ok (.ireturn, 1) := by decide +kernel
theorem dX7_door_58 : decode cX7_door 58 = .ok (.aload_n 0, 1) := by decide +kernel
theorem dX7_door_59 : decode cX7_door 59 = .ok (.getfield 10, 3) := by decide +kernel
theorem dX7_door_62 : decode cX7_door 62 = .ok (.iload_n 1, 1) := by decide +kernel
theorem dX7_door_63 : decode cX7_door 63 = .ok (.iload_n 3, 1) := by decide +kernel
theorem dX7_door_64 : decode cX7_door 64 = .ok (.invokevirtual 64, 3) := by decide +kernel
theorem dX7_door_67 : decode cX7_door 67 = .ok (.ifCond .eq 15, 3) := by decide +kernel
theorem dX7_door_70 : decode cX7_door 70 = .ok (.aload_n 0, 1) := by decide +kernel
theorem dX7_door_71 : decode cX7_door 71 = .ok (.getfield 10, 3) := by decide +kernel
theorem dX7_door_74 : decode cX7_door 74 = .ok (.iload_n 2, 1) := by decide +kernel
theorem dX7_door_75 : decode cX7_door 75 = .ok (.iload_n 3, 1) := by decide +kernel
theorem dX7_door_76 : decode cX7_door 76 = .ok (.invokevirtual 64, 3) := by decide +kernel
theorem dX7_door_79 : decode cX7_door 79 = .ok (.ifCond .ne 6, 3) := by decide +kernel
theorem dX7_door_82 : decode cX7_door 82 = .ok (.bipush (-2), 2) := by decide +kernel
theorem dX7_door_84 : decode cX7_door 84 = .ok (.ireturn, 1) := by decide +kernel
theorem dX7_door_85 : decode cX7_door 85 = .ok (.aload_n 0, 1) := by decide +kernel
theorem dX7_door_86 : decode cX7_door 86 = .ok (.getfield 10, 3) := by decide +kernel
theorem dX7_door_89 : decode cX7_door 89 = .ok (.getfield 68, 3) := by decide +kernel
theorem dX7_door_92 : decode cX7_door 92 = .ok (.bipush 12, 2) := by decide +kernel
theorem dX7_door_94 : decode cX7_door 94 = .ok (.if_icmp .lt 6, 3) := by decide +kernel
theorem dX7_door_97 : decode cX7_door 97 = .ok (.bipush (-3), 2) := by decide +kernel
theorem dX7_door_99 : decode cX7_door 99 = .ok (.ireturn, 1) := by decide +kernel
theorem dX7_door_100 : decode cX7_door 100 = .ok (.aload_n 0, 1) := by decide +kernel
theorem dX7_door_101 : decode cX7_door 101 = .ok (.getfield 22, 3) := by decide +kernel
theorem dX7_door_104 : decode cX7_door 104 = .ok (.aload_n 0, 1) := by decide +kernel
theorem dX7_door_105 : decode cX7_door 105 = .ok (.getfield 10, 3) := by decide +kernel
theorem dX7_door_108 : decode cX7_door 108 = .ok (.invokevirtual 48, 3) := by decide +kernel
theorem dX7_door_111 : decode cX7_door 111 = .ok (.aload_n 0, 1) := by decide +kernel
theorem dX7_door_112 : decode cX7_door 112 = .ok (.getfield 10, 3) := by decide +kernel
theorem dX7_door_115 : decode cX7_door 115 = .ok (.iload_n 1, 1) := by decide +kernel
theorem dX7_door_116 : decode cX7_door 116 = .ok (.iload_n 2, 1) := by decide +kernel
theorem dX7_door_117 : decode cX7_door 117 = .ok (.iload_n 3, 1) := by decide +kernel
theorem dX7_door_118 : decode cX7_door 118 = .ok (.iload 4, 2) := by decide +kernel
theorem dX7_door_120 : decode cX7_door 120 = .ok (.iload 5, 2) := by decide +kernel
theorem dX7_door_122 : decode cX7_door 122 = .ok (.invokevirtual 71, 3) := by decide +kernel
theorem dX7_door_125 : decode cX7_door 125 = .ok (.ireturn, 1) := by decide +kernel
set_option maxRecDepth 20000 in
theorem ggX7_open_X3_doorAt : GoodIn wsX7_open wsX3_doorAt := goodIn_r _ [8, 9, 10, 130, 131, 132, 133, 134, 135, 136, 137, 138, 139] (by decide +kernel) (by decide +kernel)
set_option maxRecDepth 20000 in
theorem gX7_open_X3_doorAt : GoodIn wsX7_open (wsV RX7 75 RX3 yX3_doorAt wsX3_doorAt) := goodIn_app (goodIn_of _ (by decide +kernel)) ggX7_open_X3_doorAt
set_option maxRecDepth 20000 in
theorem ggX7_open_X7_isWithin : GoodIn wsX7_open wsX7_isWithin := goodIn_r _ [14] (by decide +kernel) (by decide +kernel)
set_option maxRecDepth 20000 in
theorem gX7_open_X7_isWithin : GoodIn wsX7_open (va_wsS RX7 40 yX7_isWithin wsX7_isWithin) := goodIn_app (goodIn_of _ (by decide +kernel)) ggX7_open_X7_isWithin
set_option maxRecDepth 20000 in
theorem ggX7_open_X3_reasonToRefuse : GoodIn wsX7_open wsX3_reasonToRefuse := goodIn_r _ [18, 19, 20, 21, 22, 23, 24, 25, 26, 27, 28, 29, 30, 7, 31, 32, 33, 34, 35, 36, 37, 38, 39, 40, 41, 42, 43, 44, 120, 121, 122, 123, 124, 125, 126, 127, 128, 129, 130, 131, 132, 133, 134, 135, 136, 137, 138, 139, 140, 141, 142, 143, 144, 145, 146] (by decide +kernel) (by decide +kernel)
set_option maxRecDepth 20000 in
theorem gX7_open_X3_reasonToRefuse : GoodIn wsX7_open (wsV RX7 79 RX3 yX3_reasonToRefuse wsX3_reasonToRefuse) := goodIn_app (goodIn_of _ (by decide +kernel)) ggX7_open_X3_reasonToRefuse
set_option maxRecDepth 20000 in
theorem ggX7_open_X2_record : GoodIn wsX7_open wsX2_record := goodIn_r _ [49, 50, 51, 52, 53, 54, 48, 55, 56, 57, 58, 7, 59, 37, 10, 60, 27, 61, 62, 63, 64, 36, 9, 65, 66, 67, 68, 69, 70, 71, 41, 72, 43, 73, 44, 74, 75, 76, 77, 78, 79, 80, 81, 82, 83, 84, 85, 86, 87, 88, 89, 90, 91, 92, 93, 94, 95, 96, 97, 98, 99, 100, 101, 102, 103, 104, 105, 106, 107, 108, 109, 110, 147, 148, 130, 131, 132, 133, 134, 135, 136, 137, 138, 139, 140, 141, 142, 143, 144, 145, 146, 120, 121, 122, 123, 124, 125, 126, 127, 128, 129, 149, 150, 151, 152, 153, 154, 155] (by decide +kernel) (by decide +kernel)
set_option maxRecDepth 20000 in
theorem gX7_open_X2_record : GoodIn wsX7_open (wsV RX7 48 RX2 yX2_record wsX2_record) := goodIn_app (goodIn_of _ (by decide +kernel)) ggX7_open_X2_record
set_option maxRecDepth 20000 in
theorem ggX7_open_X0_aimAt : GoodIn wsX7_open wsX0_aimAt := goodIn_r _ [114, 89, 88, 120, 121, 122, 123, 124, 125, 126, 127, 128, 129] (by decide +kernel) (by decide +kernel)
set_option maxRecDepth 20000 in
theorem gX7_open_X0_aimAt : GoodIn wsX7_open (wsV RX7 88 RX0 yX0_aimAt wsX0_aimAt) := goodIn_app (goodIn_of _ (by decide +kernel)) ggX7_open_X0_aimAt
theorem dX7_open_0 : decode cX7_open 0 = .ok (.aload_n 0, 1) := by decide +kernel
theorem dX7_open_1 : decode cX7_open 1 = .ok (.getfield 10, 3) := by decide +kernel
theorem dX7_open_4 : decode cX7_open 4 = .ok (.iload_n 1, 1) := by decide +kernel
theorem dX7_open_5 : decode cX7_open 5 = .ok (.invokevirtual 75, 3) := by decide +kernel
theorem dX7_open_8 : decode cX7_open 8 = .ok (.astore_n 3, 1) := by decide +kernel
theorem dX7_open_9 : decode cX7_open 9 = .ok (.aload_n 3, 1) := by decide +kernel
theorem dX7_open_10 : decode cX7_open 10 = .ok (.ifnull 13, 3) := by decide +kernel
theorem dX7_open_13 : decode cX7_open 13 = .ok (.iload_n 2, 1) := by decide +kernel
theorem dX7_open_14 : decode cX7_open 14 = .ok (.iconst 0, 1) := by decide +kernel
theorem dX7_open_15 : decode cX7_open 15 = .ok (.bipush 10, 2) := by decide +kernel
theorem dX7_open_17 : decode cX7_open 17 = .ok (.invokestatic 40, 3) := by decide +kernel
theorem dX7_open_20 : decode cX7_open 20 = .ok (.ifCond .ne 5, 3) := by decide +kernel
theorem dX7_open_23 : decode cX7_open 23 = .ok (.iconst (-1), 1) := by decide +kernel
theorem dX7_open_24 : decode cX7_open 24 = .ok (.ireturn, 1) := by decide +kernel
theorem dX7_open_25 : decode cX7_open 25 = .ok (.aload_n 0, 1) := by decide +kernel
theorem dX7_open_26 : decode cX7_open 26 = .ok (.getfield 10, 3) := by decide +kernel
theorem dX7_open_29 : decode cX7_open 29 = .ok (.aload_n 3, 1) := by decide +kernel
theorem dX7_open_30 : decode cX7_open 30 = .ok (.iload_n 2, 1) := by decide +kernel
theorem dX7_open_31 : decode cX7_open 31 = .ok (.invokevirtual 79, 3) := by decide +kernel
theorem dX7_open_34 : decode cX7_open 34 = .ok (.ifCond .eq 6, 3) := by decide +kernel
theorem dX7_open_37 : decode cX7_open 37 = .ok (.bipush (-2), 2) := by decide +kernel
theorem dX7_open_39 : decode cX7_open 39 = .ok (.ireturn, 1) := by decide +kernel
theorem dX7_open_40 : decode cX7_open 40 = .ok (.aload_n 0, 1) := by decide +kernel
theorem dX7_open_41 : decode cX7_open 41 = .ok (.getfield 22, 3) := by decide +kernel
theorem dX7_open_44 : decode cX7_open 44 = .ok (.aload_n 0, 1) := by decide +kernel
theorem dX7_open_45 : decode cX7_open 45 = .ok (.getfield 10, 3) := by decide +kernel
theorem dX7_open_48 : decode cX7_open 48 = .ok (.invokevirtual 48, 3) := by decide +kernel
theorem dX7_open_51 : decode cX7_open 51 = .ok (.aload_n 3, 1) := by decide +kernel
theorem dX7_open_52 : decode cX7_open 52 = .ok (.getfield 83, 3) := by decide +kernel
theorem dX7_open_55 : decode cX7_open 55 = .ok (.istore 4, 2) := by decide +kernel
theorem dX7_open_57 : decode cX7_open 57 = .ok (.aload_n 3, 1) := by decide +kernel
theorem dX7_open_58 : decode cX7_open 58 = .ok (.iload_n 2, 1) := by decide +kernel
theorem dX7_open_59 : decode cX7_open 59 = .ok (.invokevirtual 88, 3) := by decide +kernel
theorem dX7_open_62 : decode cX7_open 62 = .ok (.iload 4, 2) := by decide +kernel
theorem dX7_open_64 : decode cX7_open 64 = .ok (.ireturn, 1) := by decide +kernel
set_option maxRecDepth 20000 in
theorem ggX7_refusal_X3_doorAt : GoodIn wsX7_refusal wsX3_doorAt := goodIn_r _ [6, 7, 8, 48, 49, 50, 51, 52, 53, 54, 55, 56, 57] (by decide +kernel) (by decide +kernel)
set_option maxRecDepth 20000 in
theorem gX7_refusal_X3_doorAt : GoodIn wsX7_refusal (wsV RX7 75 RX3 yX3_doorAt wsX3_doorAt) := goodIn_app (goodIn_of _ (by decide +kernel)) ggX7_refusal_X3_doorAt
set_option maxRecDepth 20000 in
theorem ggX7_refusal_X7_isWithin : GoodIn wsX7_refusal wsX7_isWithin := goodIn_r _ [12] (by decide +kernel) (by decide +kernel)
set_option maxRecDepth 20000 in
theorem gX7_refusal_X7_isWithin : GoodIn wsX7_refusal (va_wsS RX7 40 yX7_isWithin wsX7_isWithin) := goodIn_app (goodIn_of _ (by decide +kernel)) ggX7_refusal_X7_isWithin
set_option maxRecDepth 20000 in
theorem ggX7_refusal_X3_reasonToRefuse : GoodIn wsX7_refusal wsX3_reasonToRefuse := goodIn_r _ [16, 17, 18, 19, 20, 21, 22, 23, 24, 25, 26, 27, 28, 5, 29, 30, 31, 32, 33, 34, 35, 36, 37, 38, 39, 40, 41, 42, 58, 59, 60, 61, 62, 63, 64, 65, 66, 67, 48, 49, 50, 51, 52, 53, 54, 55, 56, 57, 68, 69, 70, 71, 72, 73, 74] (by decide +kernel) (by decide +kernel)
set_option maxRecDepth 20000 in
theorem gX7_refusal_X3_reasonToRefuse : GoodIn wsX7_refusal (wsV RX7 79 RX3 yX3_reasonToRefuse wsX3_reasonToRefuse) := goodIn_app (goodIn_of _ (by decide +kernel)) ggX7_refusal_X3_reasonToRefuse
theorem dX7_refusal_0 : decode cX7_refusal 0 = .ok (.aload_n 0, 1) := by decide +kernel
theorem dX7_refusal_1 : decode cX7_refusal 1 = .ok (.getfield 10, 3) := by decide +kernel
theorem dX7_refusal_4 : decode cX7_refusal 4 = .ok (.iload_n 1, 1) := by decide +kernel
theorem dX7_refusal_5 : decode cX7_refusal 5 = .ok (.invokevirtual 75, 3) := by decide +kernel
theorem dX7_refusal_8 : decode cX7_refusal 8 = .ok (.astore_n 3, 1) := by decide +kernel
theorem dX7_refusal_9 : decode cX7_refusal 9 = .ok (.aload_n 3, 1) := by decide +kernel
theorem dX7_refusal_10 : decode cX7_refusal 10 = .ok (.ifnull 13, 3) := by decide +kernel
theorem dX7_refusal_13 : decode cX7_refusal 13 = .ok (.iload_n 2, 1) := by decide +kernel
theorem dX7_refusal_14 : decode cX7_refusal 14 = .ok (.iconst 0, 1) := by decide +kernel
theorem dX7_refusal_15 : decode cX7_refusal 15 = .ok (.bipush 10, 2) := by decide +kernel
theorem dX7_refusal_17 : decode cX7_refusal 17 = .ok (.invokestatic 40, 3) := by decide +kernel
theorem dX7_refusal_20 : decode cX7_refusal 20 = .ok (.ifCond .ne 5, 3) := by decide +kernel
theorem dX7_refusal_23 : decode cX7_refusal 23 = .ok (.iconst (-1), 1) := by decide +kernel
theorem dX7_refusal_24 : decode cX7_refusal 24 = .ok (.ireturn, 1) := by decide +kernel
theorem dX7_refusal_25 : decode cX7_refusal 25 = .ok (.aload_n 0, 1) := by decide +kernel
theorem dX7_refusal_26 : decode cX7_refusal 26 = .ok (.getfield 10, 3) := by decide +kernel
theorem dX7_refusal_29 : decode cX7_refusal 29 = .ok (.aload_n 3, 1) := by decide +kernel
theorem dX7_refusal_30 : decode cX7_refusal 30 = .ok (.iload_n 2, 1) := by decide +kernel
theorem dX7_refusal_31 : decode cX7_refusal 31 = .ok (.invokevirtual 79, 3) := by decide +kernel
theorem dX7_refusal_34 : decode cX7_refusal 34 = .ok (.ireturn, 1) := by decide +kernel
set_option maxRecDepth 20000 in
theorem ggX7_lock_X3_doorAt : GoodIn wsX7_lock wsX3_doorAt := goodIn_r _ [10, 11, 12, 104, 105, 106, 107, 108, 109, 110, 111, 112, 113] (by decide +kernel) (by decide +kernel)
set_option maxRecDepth 20000 in
theorem gX7_lock_X3_doorAt : GoodIn wsX7_lock (wsV RX7 75 RX3 yX3_doorAt wsX3_doorAt) := goodIn_app (goodIn_of _ (by decide +kernel)) ggX7_lock_X3_doorAt
set_option maxRecDepth 20000 in
theorem ggX7_lock_X7_isWithin : GoodIn wsX7_lock wsX7_isWithin := goodIn_r _ [16] (by decide +kernel) (by decide +kernel)
set_option maxRecDepth 20000 in
theorem gX7_lock_X7_isWithin : GoodIn wsX7_lock (va_wsS RX7 40 yX7_isWithin wsX7_isWithin) := goodIn_app (goodIn_of _ (by decide +kernel)) ggX7_lock_X7_isWithin
set_option maxRecDepth 20000 in
theorem ggX7_lock_X2_record : GoodIn wsX7_lock wsX2_record := goodIn_r _ [21, 22, 23, 24, 25, 26, 20, 27, 28, 29, 30, 9, 31, 32, 12, 33, 34, 35, 36, 37, 38, 39, 11, 40, 41, 42, 43, 44, 45, 46, 47, 48, 49, 50, 51, 52, 53, 54, 55, 56, 57, 58, 59, 60, 61, 62, 63, 64, 65, 66, 67, 68, 69, 70, 71, 72, 73, 74, 75, 76, 77, 78, 79, 80, 81, 82, 83, 84, 85, 86, 87, 88, 114, 115, 104, 105, 106, 107, 108, 109, 110, 111, 112, 113, 116, 117, 118, 119, 120, 121, 122, 94, 95, 96, 97, 98, 99, 100, 101, 102, 103, 123, 124, 125, 126, 127, 128, 129] (by decide +kernel) (by decide +kernel)
set_option maxRecDepth 20000 in
theorem gX7_lock_X2_record : GoodIn wsX7_lock (wsV RX7 48 RX2 yX2_record wsX2_record) := goodIn_app (goodIn_of _ (by decide +kernel)) ggX7_lock_X2_record
theorem dX7_lock_0 : decode cX7_lock 0 = .ok (.aload_n 0, 1) := by decide +kernel
theorem dX7_lock_1 : decode cX7_lock 1 = .ok (.getfield 10, 3) := by decide +kernel
theorem dX7_lock_4 : decode cX7_lock 4 = .ok (.iload_n 1, 1) := by decide +kernel
theorem dX7_lock_5 : decode cX7_lock 5 = .ok (.invokevirtual 75, 3) := by decide +kernel
theorem dX7_lock_8 : decode cX7_lock 8 = .ok (.astore_n 3, 1) := by decide +kernel
theorem dX7_lock_9 : decode cX7_lock 9 = .ok (.aload_n 3, 1) := by decide +kernel
theorem dX7_lock_10 : decode cX7_lock 10 = .ok (.ifnull 12, 3) := by decide +kernel
theorem dX7_lock_13 : decode cX7_lock 13 = .ok (.iload_n 2, 1) := by decide +kernel
theorem dX7_lock_14 : decode cX7_lock 14 = .ok (.iconst 0, 1) := by decide +kernel
theorem dX7_lock_15 : decode cX7_lock 15 = .ok (.iconst 1, 1) := by decide +kernel
theorem dX7_lock_16 : decode cX7_lock 16 = .ok (.invokestatic 40, 3) := by decide +kernel
theorem dX7_lock_19 : decode cX7_lock 19 = .ok (.ifCond .ne 5, 3) := by decide +kernel
theorem dX7_lock_22 : decode cX7_lock 22 = .ok (.iconst (-1), 1) := by decide +kernel
theorem dX7_lock_23 : decode cX7_lock 23 = .ok (.ireturn, 1) := by decide +kernel
theorem dX7_lock_24 : decode cX7_lock 24 = .ok (.aload_n 3, 1) := by decide +kernel
theorem dX7_lock_25 : decode cX7_lock 25 = .ok (.getfield 92, 3) := by decide +kernel
theorem dX7_lock_28 : decode cX7_lock 28 = .ok (.iload_n 2, 1) := by decide +kernel
theorem dX7_lock_29 : decode cX7_lock 29 = .ok (.iconst 1, 1) := by decide +kernel
theorem dX7_lock_30 : decode cX7_lock 30 = .ok (.if_icmp .ne 7, 3) := by decide +kernel
theorem dX7_lock_33 : decode cX7_lock 33 = .ok (.iconst 1, 1) := by decide +kernel
theorem dX7_lock_34 : decode cX7_lock 34 = .ok (.goto 4, 3) := by decide +kernel
theorem dX7_lock_37 : decode cX7_lock 37 = .ok (.iconst 0, 1) := by decide +kernel
theorem dX7_lock_38 : decode cX7_lock 38 = .ok (.if_icmp .ne 6, 3) := by decide +kernel
theorem dX7_lock_41 : decode cX7_lock 41 = .ok (.bipush (-2), 2) := by decide +kernel
theorem dX7_lock_43 : decode cX7_lock 43 = .ok (.ireturn, 1) := by decide +kernel
theorem dX7_lock_44 : decode cX7_lock 44 = .ok (.aload_n 0, 1) := by decide +kernel
theorem dX7_lock_45 : decode cX7_lock 45 = .ok (.getfield 22, 3) := by decide +kernel
theorem dX7_lock_48 : decode cX7_lock 48 = .ok (.aload_n 0, 1) := by decide +kernel
theorem dX7_lock_49 : decode cX7_lock 49 = .ok (.getfield 10, 3) := by decide +kernel
theorem dX7_lock_52 : decode cX7_lock 52 = .ok (.invokevirtual 48, 3) := by decide +kernel
theorem dX7_lock_55 : decode cX7_lock 55 = .ok (.aload_n 3, 1) := by decide +kernel
theorem dX7_lock_56 : decode cX7_lock 56 = .ok (.iload_n 2, 1) := by decide +kernel
theorem dX7_lock_57 : decode cX7_lock 57 = .ok (.iconst 1, 1) := by decide +kernel
theorem dX7_lock_58 : decode cX7_lock 58 = .ok (.if_icmp .ne 7, 3) := by decide +kernel
theorem dX7_lock_61 : decode cX7_lock 61 = .ok (.iconst 1, 1) := by decide +kernel
theorem dX7_lock_62 : decode cX7_lock 62 = .ok (.goto 4, 3) := by decide +kernel
theorem dX7_lock_65 : decode cX7_lock 65 = .ok (.iconst 0, 1) := by decide +kernel
theorem dX7_lock_66 : decode cX7_lock 66 = .ok (.putfield 92, 3) := by decide +kernel
theorem dX7_lock_69 : decode cX7_lock 69 = .ok (.aload_n 3, 1) := by decide +kernel
theorem dX7_lock_70 : decode cX7_lock 70 = .ok (.getfield 92, 3) := by decide +kernel
theorem dX7_lock_73 : decode cX7_lock 73 = .ok (.ifCond .eq 11, 3) := by decide +kernel
theorem dX7_lock_76 : decode cX7_lock 76 = .ok (.aload_n 3, 1) := by decide +kernel
theorem dX7_lock_77 : decode cX7_lock 77 = .ok (.aload_n 3, 1) := by decide +kernel
theorem dX7_lock_78 : decode cX7_lock 78 = .ok (.getfield 96, 3) := by decide +kernel
theorem dX7_lock_81 : decode cX7_lock 81 = .ok (.putfield 83, 3) := by decide +kernel
theorem dX7_lock_84 : decode cX7_lock 84 = .ok (.aload_n 3, 1) := by decide +kernel
theorem dX7_lock_85 : decode cX7_lock 85 = .ok (.getfield 96, 3) := by decide +kernel
theorem dX7_lock_88 : decode cX7_lock 88 = .ok (.ireturn, 1) := by decide +kernel
set_option maxRecDepth 20000 in
theorem ggX7_set_X7_isWithin : GoodIn wsX7_set wsX7_isWithin := goodIn_r _ [8] (by decide +kernel) (by decide +kernel)
set_option maxRecDepth 20000 in
theorem gX7_set_X7_isWithin : GoodIn wsX7_set (va_wsS RX7 40 yX7_isWithin wsX7_isWithin) := goodIn_app (goodIn_of _ (by decide +kernel)) ggX7_set_X7_isWithin
set_option maxRecDepth 20000 in
theorem ggX7_set_X2_record : GoodIn wsX7_set wsX2_record := goodIn_r _ [13, 14, 15, 16, 17, 18, 12, 19, 20, 21, 22, 23, 24, 25, 26, 27, 28, 29, 30, 31, 32, 33, 34, 35, 36, 37, 38, 39, 40, 41, 42, 43, 44, 45, 46, 47, 48, 49, 50, 51, 52, 53, 54, 55, 56, 57, 58, 59, 60, 61, 62, 63, 64, 65, 66, 67, 68, 69, 70, 71, 72, 73, 74, 75, 76, 77, 78, 79, 80, 81, 82, 83, 99, 100, 89, 90, 91, 92, 93, 94, 95, 96, 97, 98, 101, 102, 103, 104, 105, 106, 107, 108, 109, 110, 111, 112, 113, 114, 115, 116, 117, 118, 119, 120, 121, 122, 123, 124] (by decide +kernel) (by decide +kernel)
set_option maxRecDepth 20000 in
theorem gX7_set_X2_record : GoodIn wsX7_set (wsV RX7 48 RX2 yX2_record wsX2_record) := goodIn_app (goodIn_of _ (by decide +kernel)) ggX7_set_X2_record
theorem dX7_set_0 : decode cX7_set 0 = .ok (.iload_n 1, 1) := by decide +kernel
theorem dX7_set_1 : decode cX7_set 1 = .ok (.iconst 0, 1) := by decide +kernel
theorem dX7_set_2 : decode cX7_set 2 = .ok (.iconst 1, 1) := by decide +kernel
theorem dX7_set_3 : decode cX7_set 3 = .ok (.invokestatic 40, 3) := by decide +kernel
theorem dX7_set_6 : decode cX7_set 6 = .ok (.ifCond .eq 13, 3) := by decide +kernel
theorem dX7_set_9 : decode cX7_set 9 = .ok (.iload_n 2, 1) := by decide +kernel
theorem dX7_set_10 : decode cX7_set 10 = .ok (.iconst 0, 1) := by decide +kernel
theorem dX7_set_11 : decode cX7_set 11 = .ok (.ldc 99, 2) := by decide +kernel
theorem dX7_set_13 : decode cX7_set 13 = .ok (.invokestatic 40, 3) := by decide +kernel
theorem dX7_set_16 : decode cX7_set 16 = .ok (.ifCond .ne 5, 3) := by decide +kernel
theorem dX7_set_19 : decode cX7_set 19 = .ok (.iconst (-1), 1) := by decide +kernel
theorem dX7_set_20 : decode cX7_set 20 = .ok (.ireturn, 1) := by decide +kernel
theorem dX7_set_21 : decode cX7_set 21 = .ok (.aload_n 0, 1) := by decide +kernel
theorem dX7_set_22 : decode cX7_set 22 = .ok (.getfield 22, 3) := by decide +kernel
theorem dX7_set_25 : decode cX7_set 25 = .ok (.aload_n 0, 1) := by decide +kernel
theorem dX7_set_26 : decode cX7_set 26 = .ok (.getfield 10, 3) := by decide +kernel
theorem dX7_set_29 : decode cX7_set 29 = .ok (.invokevirtual 48, 3) := by decide +kernel
theorem dX7_set_32 : decode cX7_set 32 = .ok (.aload_n 0, 1) := by decide +kernel
theorem dX7_set_33 : decode cX7_set 33 = .ok (.getfield 10, 3) := by decide +kernel
theorem dX7_set_36 : decode cX7_set 36 = .ok (.getfield 100, 3) := by decide +kernel
theorem dX7_set_39 : decode cX7_set 39 = .ok (.iload_n 1, 1) := by decide +kernel
theorem dX7_set_40 : decode cX7_set 40 = .ok (.iaload, 1) := by decide +kernel
theorem dX7_set_41 : decode cX7_set 41 = .ok (.istore_n 3, 1) := by decide +kernel
theorem dX7_set_42 : decode cX7_set 42 = .ok (.aload_n 0, 1) := by decide +kernel
theorem dX7_set_43 : decode cX7_set 43 = .ok (.getfield 10, 3) := by decide +kernel
theorem dX7_set_46 : decode cX7_set 46 = .ok (.getfield 100, 3) := by decide +kernel
theorem dX7_set_49 : decode cX7_set 49 = .ok (.iload_n 1, 1) := by decide +kernel
theorem dX7_set_50 : decode cX7_set 50 = .ok (.iload_n 2, 1) := by decide +kernel
theorem dX7_set_51 : decode cX7_set 51 = .ok (.iastore, 1) := by decide +kernel
theorem dX7_set_52 : decode cX7_set 52 = .ok (.iload_n 3, 1) := by decide +kernel
theorem dX7_set_53 : decode cX7_set 53 = .ok (.ireturn, 1) := by decide +kernel
set_option maxRecDepth 20000 in
theorem ggX7_roomOf_X3_roomAt : GoodIn wsX7_roomOf wsX3_roomAt := goodIn_r _ [13, 14, 15, 67, 68, 69, 70, 71, 72, 73, 74, 75, 76] (by decide +kernel) (by decide +kernel)
set_option maxRecDepth 20000 in
theorem gX7_roomOf_X3_roomAt : GoodIn wsX7_roomOf (wsV RX7 56 RX3 yX3_roomAt wsX3_roomAt) := goodIn_app (goodIn_of _ (by decide +kernel)) ggX7_roomOf_X3_roomAt
set_option maxRecDepth 20000 in
theorem ggX7_roomOf_X5_density : GoodIn wsX7_roomOf wsX5_density := goodIn_r _ [20, 21, 22, 60, 61, 62, 63, 64, 65, 66] (by decide +kernel) (by decide +kernel)
set_option maxRecDepth 20000 in
theorem gX7_roomOf_X5_density : GoodIn wsX7_roomOf (wsV RX7 115 RX5 yX5_density wsX5_density) := goodIn_app (goodIn_of _ (by decide +kernel)) ggX7_roomOf_X5_density
set_option maxRecDepth 20000 in
theorem ggX7_roomOf_X7_levelOf : GoodIn wsX7_roomOf wsX7_levelOf := goodIn_r _ [26] (by decide +kernel) (by decide +kernel)
set_option maxRecDepth 20000 in
theorem gX7_roomOf_X7_levelOf : GoodIn wsX7_roomOf (va_wsS RX7 119 yX7_levelOf wsX7_levelOf) := goodIn_app (goodIn_of _ (by decide +kernel)) ggX7_roomOf_X7_levelOf
set_option maxRecDepth 20000 in
theorem ggX7_roomOf_X3_doorsOf : GoodIn wsX7_roomOf wsX3_doorsOf := goodIn_r _ [30, 31, 32, 33, 34, 35, 36, 37, 38, 67, 68, 69, 70, 71, 72, 73, 74, 75, 76, 77, 78, 79, 80, 81, 82, 83, 84, 85, 86] (by decide +kernel) (by decide +kernel)
set_option maxRecDepth 20000 in
theorem gX7_roomOf_X3_doorsOf : GoodIn wsX7_roomOf (wsV RX7 129 RX3 yX3_doorsOf wsX3_doorsOf) := goodIn_app (goodIn_of _ (by decide +kernel)) ggX7_roomOf_X3_doorsOf
set_option maxRecDepth 20000 in
theorem ggX7_roomOf_X4_soundsHeard : GoodIn wsX7_roomOf wsX4_soundsHeard := goodIn_r _ [43, 44, 45, 46, 47, 48, 49, 50, 51, 52, 53, 54, 87, 88, 89, 90, 91, 92, 93] (by decide +kernel) (by decide +kernel)
set_option maxRecDepth 20000 in
theorem gX7_roomOf_X4_soundsHeard : GoodIn wsX7_roomOf (wsV RX7 139 RX4 yX4_soundsHeard wsX4_soundsHeard) := goodIn_app (goodIn_of _ (by decide +kernel)) ggX7_roomOf_X4_soundsHeard
theorem dX7_roomOf_0 : decode cX7_roomOf 0 = .ok (.aload_n 0, 1) := by decide +kernel
theorem dX7_roomOf_1 : decode cX7_roomOf 1 = .ok (.getfield 10, 3) := by decide +kernel
theorem dX7_roomOf_4 : decode cX7_roomOf 4 = .ok (.iload_n 1, 1) := by decide +kernel
theorem dX7_roomOf_5 : decode cX7_roomOf 5 = .ok (.invokevirtual 56, 3) := by decide +kernel
theorem dX7_roomOf_8 : decode cX7_roomOf 8 = .ok (.astore_n 3, 1) := by decide +kernel
theorem dX7_roomOf_9 : decode cX7_roomOf 9 = .ok (.aload_n 3, 1) := by decide +kernel
theorem dX7_roomOf_10 : decode cX7_roomOf 10 = .ok (.ifnonnull 5, 3) := by decide +kernel
theorem dX7_roomOf_13 : decode cX7_roomOf 13 = .ok (.iconst (-1), 1) := by decide +kernel
theorem dX7_roomOf_14 : decode cX7_roomOf 14 = .ok (.ireturn, 1) := by decide +kernel
theorem dX7_roomOf_15 : decode cX7_roomOf 15 = .ok (.iload_n 2, 1) := by decide +kernel
theorem dX7_roomOf_16 : decode cX7_roomOf 16 = .ok (.tableswitch 130 0 8 #[52, 57, 62, 67, 72, 92, 97, 102, 111], 52) := by decide +kernel
theorem dX7_roomOf_68 : decode cX7_roomOf 68 = .ok (.aload_n 3, 1) := by decide +kernel
theorem dX7_roomOf_69 : decode cX7_roomOf 69 = .ok (.getfield 104, 3) := by decide +kernel
theorem dX7_roomOf_72 : decode cX7_roomOf 72 = .ok (.ireturn, 1) := by decide +kernel
theorem dX7_roomOf_73 : decode cX7_roomOf 73 = .ok (.aload_n 3, 1) := by decide +kernel
theorem dX7_roomOf_74 : decode cX7_roomOf 74 = .ok (.getfield 109, 3) := by decide +kernel
theorem dX7_roomOf_77 : decode cX7_roomOf 77 = .ok (.ireturn, 1) := by decide +kernel
theorem dX7_roomOf_78 : decode cX7_roomOf 78 = .ok (.aload_n 3, 1) := by decide +kernel
theorem dX7_roomOf_79 : decode cX7_roomOf 79 = .ok (.getfield 112, 3) := by decide +kernel
theorem dX7_roomOf_82 : decode cX7_roomOf 82 = .ok (.ireturn, 1) := by decide +kernel
theorem dX7_roomOf_83 : decode cX7_roomOf 83 = .ok (.aload_n 3, 1) := by decide +kernel
theorem dX7_roomOf_84 : decode cX7_roomOf 84 = .ok (.invokevirtual 115, 3) := by decide +kernel
theorem dX7_roomOf_87 : decode cX7_roomOf 87 = .ok (.ireturn, 1) := by decide +kernel
theorem dX7_roomOf_88 : decode cX7_roomOf 88 = .ok (.aload_n 3, 1) := by decide +kernel
theorem dX7_roomOf_89 : decode cX7_roomOf 89 = .ok (.getfield 112, 3) := by decide +kernel
theorem dX7_roomOf_92 : decode cX7_roomOf 92 = .ok (.ifCond .le 13, 3) := by decide +kernel
theorem dX7_roomOf_95 : decode cX7_roomOf 95 = .ok (.aload_n 3, 1) := by decide +kernel
theorem dX7_roomOf_96 : decode cX7_roomOf 96 = .ok (.getfield 112, 3) := by decide +kernel
theorem dX7_roomOf_99 : decode cX7_roomOf 99 = .ok (.invokestatic 119, 3) := by decide +kernel
theorem dX7_roomOf_102 : decode cX7_roomOf 102 = .ok (.goto 5, 3) := by decide +kernel
theorem dX7_roomOf_105 : decode cX7_roomOf 105 = .ok (.bipush (-4), 2) := by decide +kernel
theorem dX7_roomOf_107 : decode cX7_roomOf 107 = .ok (.ireturn, 1) := by decide +kernel
theorem dX7_roomOf_108 : decode cX7_roomOf 108 = .ok (.aload_n 3, 1) := by decide +kernel
theorem dX7_roomOf_109 : decode cX7_roomOf 109 = .ok (.getfield 123, 3) := by decide +kernel
theorem dX7_roomOf_112 : decode cX7_roomOf 112 = .ok (.ireturn, 1) := by decide +kernel
theorem dX7_roomOf_113 : decode cX7_roomOf 113 = .ok (.aload_n 3, 1) := by decide +kernel
theorem dX7_roomOf_114 : decode cX7_roomOf 114 = .ok (.getfield 126, 3) := by decide +kernel
theorem dX7_roomOf_117 : decode cX7_roomOf 117 = .ok (.ireturn, 1) := by decide +kernel
theorem dX7_roomOf_118 : decode cX7_roomOf 118 = .ok (.aload_n 0, 1) := by decide +kernel
theorem dX7_roomOf_119 : decode cX7_roomOf 119 = .ok (.getfield 10, 3) := by decide +kernel
theorem dX7_roomOf_122 : decode cX7_roomOf 122 = .ok (.iload_n 1, 1) := by decide +kernel
theorem dX7_roomOf_123 : decode cX7_roomOf 123 = .ok (.invokevirtual 129, 3) := by decide +kernel
theorem dX7_roomOf_126 : decode cX7_roomOf 126 = .ok (.ireturn, 1) := by decide +kernel
theorem dX7_roomOf_127 : decode cX7_roomOf 127 = .ok (.aload_n 0, 1) := by decide +kernel
theorem dX7_roomOf_128 : decode cX7_roomOf 128 = .ok (.getfield 10, 3) := by decide +kernel
theorem dX7_roomOf_131 : decode cX7_roomOf 131 = .ok (.getfield 132, 3) := by decide +kernel
theorem dX7_roomOf_134 : decode cX7_roomOf 134 = .ok (.iload_n 1, 1) := by decide +kernel
theorem dX7_roomOf_135 : decode cX7_roomOf 135 = .ok (.aload_n 0, 1) := by decide +kernel
theorem dX7_roomOf_136 : decode cX7_roomOf 136 = .ok (.getfield 10, 3) := by decide +kernel
theorem dX7_roomOf_139 : decode cX7_roomOf 139 = .ok (.getfield 136, 3) := by decide +kernel
theorem dX7_roomOf_142 : decode cX7_roomOf 142 = .ok (.invokevirtual 139, 3) := by decide +kernel
theorem dX7_roomOf_145 : decode cX7_roomOf 145 = .ok (.ireturn, 1) := by decide +kernel
theorem dX7_roomOf_146 : decode cX7_roomOf 146 = .ok (.iconst (-1), 1) := by decide +kernel
theorem dX7_roomOf_147 : decode cX7_roomOf 147 = .ok (.ireturn, 1) := by decide +kernel
set_option maxRecDepth 20000 in
theorem ggX7_doorOf_X3_doorAt : GoodIn wsX7_doorOf wsX3_doorAt := goodIn_r _ [14, 15, 16, 59, 60, 61, 62, 63, 64, 65, 66, 67, 68] (by decide +kernel) (by decide +kernel)
set_option maxRecDepth 20000 in
theorem gX7_doorOf_X3_doorAt : GoodIn wsX7_doorOf (wsV RX7 75 RX3 yX3_doorAt wsX3_doorAt) := goodIn_app (goodIn_of _ (by decide +kernel)) ggX7_doorOf_X3_doorAt
set_option maxRecDepth 20000 in
theorem ggX7_doorOf_X0_energyOnItsWay : GoodIn wsX7_doorOf wsX0_energyOnItsWay := goodIn_r _ [21, 22, 49, 50, 51, 52, 53, 54, 55, 56, 57, 58] (by decide +kernel) (by decide +kernel)
set_option maxRecDepth 20000 in
theorem gX7_doorOf_X0_energyOnItsWay : GoodIn wsX7_doorOf (wsV RX7 156 RX0 yX0_energyOnItsWay wsX0_energyOnItsWay) := goodIn_app (goodIn_of _ (by decide +kernel)) ggX7_doorOf_X0_energyOnItsWay
set_option maxRecDepth 20000 in
theorem ggX7_doorOf_X3_wouldGo : GoodIn wsX7_doorOf wsX3_wouldGo := goodIn_r _ [26, 27, 28, 29, 30, 13, 31, 32, 33, 34, 35, 36, 37, 38, 39, 40, 41, 42, 43, 49, 50, 51, 52, 53, 54, 55, 56, 57, 58, 59, 60, 61, 62, 63, 64, 65, 66, 67, 68, 69, 70, 71, 72, 73, 74, 75] (by decide +kernel) (by decide +kernel)
set_option maxRecDepth 20000 in
theorem gX7_doorOf_X3_wouldGo : GoodIn wsX7_doorOf (wsV RX7 162 RX3 yX3_wouldGo wsX3_wouldGo) := goodIn_app (goodIn_of _ (by decide +kernel)) ggX7_doorOf_X3_wouldGo
theorem dX7_doorOf_0 : decode cX7_doorOf 0 = .ok (.aload_n 0, 1) := by decide +kernel
theorem dX7_doorOf_1 : decode cX7_doorOf 1 = .ok (.getfield 10, 3) := by decide +kernel
theorem dX7_doorOf_4 : decode cX7_doorOf 4 = .ok (.iload_n 1, 1) := by decide +kernel
theorem dX7_doorOf_5 : decode cX7_doorOf 5 = .ok (.invokevirtual 75, 3) := by decide +kernel
theorem dX7_doorOf_8 : decode cX7_doorOf 8 = .ok (.astore_n 3, 1) := by decide +kernel
theorem dX7_doorOf_9 : decode cX7_doorOf 9 = .ok (.aload_n 3, 1) := by decide +kernel
theorem dX7_doorOf_10 : decode cX7_doorOf 10 = .ok (.ifnonnull 5, 3) := by decide +kernel
theorem dX7_doorOf_13 : decode cX7_doorOf 13 = .ok (.iconst (-1), 1) := by decide +kernel
theorem dX7_doorOf_14 : decode cX7_doorOf 14 = .ok (.ireturn, 1) := by decide +kernel
theorem dX7_doorOf_15 : decode cX7_doorOf 15 = .ok (.iload_n 2, 1) := by decide +kernel
theorem dX7_doorOf_16 : decode cX7_doorOf 16 = .ok (.tableswitch 159 0 12 #[68, 75, 82, 87, 92, 97, 102, 107, 120, 125, 132, 139, 149], 68) := by decide +kernel
theorem dX7_doorOf_84 : decode cX7_doorOf 84 = .ok (.aload_n 3, 1) := by decide +kernel
theorem dX7_doorOf_85 : decode cX7_doorOf 85 = .ok (.getfield 144, 3) := by decide +kernel
theorem dX7_doorOf_88 : decode cX7_doorOf 88 = .ok (.iconst 0, 1) := by decide +kernel
theorem dX7_doorOf_89 : decode cX7_doorOf 89 = .ok (.iaload, 1) := by decide +kernel
theorem dX7_doorOf_90 : decode cX7_doorOf 90 = .ok (.ireturn, 1) := by decide +kernel
theorem dX7_doorOf_91 : decode cX7_doorOf 91 = .ok (.aload_n 3, 1) := by decide +kernel
theorem dX7_doorOf_92 : decode cX7_doorOf 92 = .ok (.getfield 144, 3) := by decide +kernel
theorem dX7_doorOf_95 : decode cX7_doorOf 95 = .ok (.iconst 1, 1) := by decide +kernel
theorem dX7_doorOf_96 : decode cX7_doorOf 96 = .ok (.iaload, 1) := by decide +kernel
theorem dX7_doorOf_97 : decode cX7_doorOf 97 = .ok (.ireturn, 1) := by decide +kernel
theorem dX7_doorOf_98 : decode cX7_doorOf 98 = .ok (.aload_n 3, 1) := by decide +kernel
theorem dX7_doorOf_99 : decode cX7_doorOf 99 = .ok (.getfield 147, 3) := by decide +kernel
theorem dX7_doorOf_102 : decode cX7_doorOf 102 = .ok (.ireturn, 1) := by decide +kernel
theorem dX7_doorOf_103 : decode cX7_doorOf 103 = .ok (.aload_n 3, 1) := by decide +kernel
theorem dX7_doorOf_104 : decode cX7_doorOf 104 = .ok (.getfield 150, 3) := by decide +kernel
theorem dX7_doorOf_107 : decode cX7_doorOf 107 = .ok (.ireturn, 1) := by decide +kernel
theorem dX7_doorOf_108 : decode cX7_doorOf 108 = .ok (.aload_n 3, 1) := by decide +kernel
theorem dX7_doorOf_109 : decode cX7_doorOf 109 = .ok (.getfield 153, 3) := by decide +kernel
theorem dX7_doorOf_112 : decode cX7_doorOf 112 = .ok (.ireturn, 1) := by decide +kernel
theorem dX7_doorOf_113 : decode cX7_doorOf 113 = .ok (.aload_n 3, 1) := by decide +kernel
theorem dX7_doorOf_114 : decode cX7_doorOf 114 = .ok (.getfield 96, 3) := by decide +kernel
theorem dX7_doorOf_117 : decode cX7_doorOf 117 = .ok (.ireturn, 1) := by decide +kernel
theorem dX7_doorOf_118 : decode cX7_doorOf 118 = .ok (.aload_n 3, 1) := by decide +kernel
theorem dX7_doorOf_119 : decode cX7_doorOf 119 = .ok (.getfield 83, 3) := by decide +kernel
theorem dX7_doorOf_122 : decode cX7_doorOf 122 = .ok (.ireturn, 1) := by decide +kernel
theorem dX7_doorOf_123 : decode cX7_doorOf 123 = .ok (.aload_n 3, 1) := by decide +kernel
theorem dX7_doorOf_124 : decode cX7_doorOf 124 = .ok (.getfield 92, 3) := by decide +kernel
theorem dX7_doorOf_127 : decode cX7_doorOf 127 = .ok (.ifCond .eq 7, 3) := by decide +kernel
theorem dX7_doorOf_130 : decode cX7_doorOf 130 = .ok (.iconst 1, 1) := by decide +kernel
theorem dX7_doorOf_131 : decode cX7_doorOf 131 = .ok (.goto 4, 3) := by decide +kernel
theorem dX7_doorOf_134 : decode cX7_doorOf 134 = .ok (.iconst 0, 1) := by decide +kernel
theorem dX7_doorOf_135 : decode cX7_doorOf 135 = .ok (.ireturn, 1) := by decide +kernel
theorem dX7_doorOf_136 : decode cX7_doorOf 136 = .ok (.aload_n 3, 1) := by decide +kernel
theorem dX7_doorOf_137 : decode cX7_doorOf 137 = .ok (.invokevirtual 156, 3) := by decide +kernel
theorem dX7_doorOf_140 : decode cX7_doorOf 140 = .ok (.ireturn, 1) := by decide +kernel
theorem dX7_doorOf_141 : decode cX7_doorOf 141 = .ok (.aload_n 3, 1) := by decide +kernel
theorem dX7_doorOf_142 : decode cX7_doorOf 142 = .ok (.getfield 159, 3) := by decide +kernel
theorem dX7_doorOf_145 : decode cX7_doorOf 145 = .ok (.iconst 0, 1) := by decide +kernel
theorem dX7_doorOf_146 : decode cX7_doorOf 146 = .ok (.iaload, 1) := by decide +kernel
theorem dX7_doorOf_147 : decode cX7_doorOf 147 = .ok (.ireturn, 1) := by decide +kernel
theorem dX7_doorOf_148 : decode cX7_doorOf 148 = .ok (.aload_n 3, 1) := by decide +kernel
theorem dX7_doorOf_149 : decode cX7_doorOf 149 = .ok (.getfield 159, 3) := by decide +kernel
theorem dX7_doorOf_152 : decode cX7_doorOf 152 = .ok (.iconst 1, 1) := by decide +kernel
theorem dX7_doorOf_153 : decode cX7_doorOf 153 = .ok (.iaload, 1) := by decide +kernel
theorem dX7_doorOf_154 : decode cX7_doorOf 154 = .ok (.ireturn, 1) := by decide +kernel
theorem dX7_doorOf_155 : decode cX7_doorOf 155 = .ok (.aload_n 0, 1) := by decide +kernel
theorem dX7_doorOf_156 : decode cX7_doorOf 156 = .ok (.getfield 10, 3) := by decide +kernel
theorem dX7_doorOf_159 : decode cX7_doorOf 159 = .ok (.aload_n 3, 1) := by decide +kernel
theorem dX7_doorOf_160 : decode cX7_doorOf 160 = .ok (.iconst 0, 1) := by decide +kernel
theorem dX7_doorOf_161 : decode cX7_doorOf 161 = .ok (.invokevirtual 162, 3) := by decide +kernel
theorem dX7_doorOf_164 : decode cX7_doorOf 164 = .ok (.ireturn, 1) := by decide +kernel
theorem dX7_doorOf_165 : decode cX7_doorOf 165 = .ok (.aload_n 0, 1) := by decide +kernel
theorem dX7_doorOf_166 : decode cX7_doorOf 166 = .ok (.getfield 10, 3) := by decide +kernel
theorem dX7_doorOf_169 : decode cX7_doorOf 169 = .ok (.aload_n 3, 1) := by decide +kernel
theorem dX7_doorOf_170 : decode cX7_doorOf 170 = .ok (.iconst 1, 1) := by decide +kernel
theorem dX7_doorOf_171 : decode cX7_doorOf 171 = .ok (.invokevirtual 162, 3) := by decide +kernel
theorem dX7_doorOf_174 : decode cX7_doorOf 174 = .ok (.ireturn, 1) := by decide +kernel
theorem dX7_doorOf_175 : decode cX7_doorOf 175 = .ok (.iconst (-1), 1) := by decide +kernel
theorem dX7_doorOf_176 : decode cX7_doorOf 176 = .ok (.ireturn, 1) := by decide +kernel
set_option maxRecDepth 20000 in
theorem ggX7_count_X3_energyInRooms : GoodIn wsX7_count wsX3_energyInRooms := goodIn_r _ [19, 20, 21, 48, 49, 50, 51, 52, 53, 54, 55, 56, 57, 68, 69, 70, 71, 72, 73, 74] (by decide +kernel) (by decide +kernel)
set_option maxRecDepth 20000 in
theorem gX7_count_X3_energyInRooms : GoodIn wsX7_count (wsV RX7 168 RX3 yX3_energyInRooms wsX3_energyInRooms) := goodIn_app (goodIn_of _ (by decide +kernel)) ggX7_count_X3_energyInRooms
set_option maxRecDepth 20000 in
theorem ggX7_count_X3_energyOnItsWay : GoodIn wsX7_count wsX3_energyOnItsWay := goodIn_r _ [25, 26, 27, 28, 29, 30, 31, 32, 48, 49, 50, 51, 52, 53, 54, 55, 56, 57, 75, 76, 77, 78, 79, 80, 81, 82, 83, 84] (by decide +kernel) (by decide +kernel)
set_option maxRecDepth 20000 in
theorem gX7_count_X3_energyOnItsWay : GoodIn wsX7_count (wsV RX7 171 RX3 yX3_energyOnItsWay wsX3_energyOnItsWay) := goodIn_app (goodIn_of _ (by decide +kernel)) ggX7_count_X3_energyOnItsWay
set_option maxRecDepth 20000 in
theorem ggX7_count_X3_energyAbsorbed : GoodIn wsX7_count wsX3_energyAbsorbed := goodIn_r _ [36, 20, 37, 48, 49, 50, 51, 52, 53, 54, 55, 56, 57, 68, 69, 70, 71, 72, 73, 74] (by decide +kernel) (by decide +kernel)
set_option maxRecDepth 20000 in
theorem gX7_count_X3_energyAbsorbed : GoodIn wsX7_count (wsV RX7 172 RX3 yX3_energyAbsorbed wsX3_energyAbsorbed) := goodIn_app (goodIn_of _ (by decide +kernel)) ggX7_count_X3_energyAbsorbed
set_option maxRecDepth 20000 in
theorem ggX7_count_X3_energyGiven : GoodIn wsX7_count wsX3_energyGiven := goodIn_r _ [41, 20, 42, 48, 49, 50, 51, 52, 53, 54, 55, 56, 57, 68, 69, 70, 71, 72, 73, 74] (by decide +kernel) (by decide +kernel)
set_option maxRecDepth 20000 in
theorem gX7_count_X3_energyGiven : GoodIn wsX7_count (wsV RX7 178 RX3 yX3_energyGiven wsX3_energyGiven) := goodIn_app (goodIn_of _ (by decide +kernel)) ggX7_count_X3_energyGiven
theorem dX7_count_0 : decode cX7_count 0 = .ok (.iload_n 1, 1) := by decide +kernel
theorem dX7_count_1 : decode cX7_count 1 = .ok (.tableswitch 230 0 21 #[103, 111, 119, 130, 138, 146, 154, 162, 170, 178, 186, 194, 202, 230, 230, 230, 230, 230, 230, 230, 210, 220], 103) := by decide +kernel
theorem dX7_count_104 : decode cX7_count 104 = .ok (.aload_n 0, 1) := by decide +kernel
theorem dX7_count_105 : decode cX7_count 105 = .ok (.getfield 10, 3) := by decide +kernel
theorem dX7_count_108 : decode cX7_count 108 = .ok (.getfield 44, 3) := by decide +kernel
theorem dX7_count_111 : decode cX7_count 111 = .ok (.ireturn, 1) := by decide +kernel
theorem dX7_count_112 : decode cX7_count 112 = .ok (.aload_n 0, 1) := by decide +kernel
theorem dX7_count_113 : decode cX7_count 113 = .ok (.getfield 10, 3) := by decide +kernel
theorem dX7_count_116 : decode cX7_count 116 = .ok (.getfield 68, 3) := by decide +kernel
theorem dX7_count_119 : decode cX7_count 119 = .ok (.ireturn, 1) := by decide +kernel
theorem dX7_count_120 : decode cX7_count 120 = .ok (.aload_n 0, 1) := by decide +kernel
theorem dX7_count_121 : decode cX7_count 121 = .ok (.getfield 10, 3) := by decide +kernel
theorem dX7_count_124 : decode cX7_count 124 = .ok (.getfield 132, 3) := by decide +kernel
theorem dX7_count_127 : decode cX7_count 127 = .ok (.getfield 165, 3) := by decide +kernel
theorem dX7_count_130 : decode cX7_count 130 = .ok (.ireturn, 1) := by decide +kernel
theorem dX7_count_131 : decode cX7_count 131 = .ok (.aload_n 0, 1) := by decide +kernel
theorem dX7_count_132 : decode cX7_count 132 = .ok (.getfield 10, 3) := by decide +kernel
theorem dX7_count_135 : decode cX7_count 135 = .ok (.getfield 136, 3) := by decide +kernel
theorem dX7_count_138 : decode cX7_count 138 = .ok (.ireturn, 1) := by decide +kernel
theorem dX7_count_139 : decode cX7_count 139 = .ok (.aload_n 0, 1) := by decide +kernel
theorem dX7_count_140 : decode cX7_count 140 = .ok (.getfield 10, 3) := by decide +kernel
theorem dX7_count_143 : decode cX7_count 143 = .ok (.invokevirtual 168, 3) := by decide +kernel
theorem dX7_count_146 : decode cX7_count 146 = .ok (.ireturn, 1) := by decide +kernel
theorem dX7_count_147 : decode cX7_count 147 = .ok (.aload_n 0, 1) := by decide +kernel
theorem dX7_count_148 : decode cX7_count 148 = .ok (.getfield 10, 3) := by decide +kernel
theorem dX7_count_151 : decode cX7_count 151 = .ok (.invokevirtual 171, 3) := by decide +kernel
theorem dX7_count_154 : decode cX7_count 154 = .ok (.ireturn, 1) := by decide +kernel
theorem dX7_count_155 : decode cX7_count 155 = .ok (.aload_n 0, 1) := by decide +kernel
theorem dX7_count_156 : decode cX7_count 156 = .ok (.getfield 10, 3) := by decide +kernel
theorem dX7_count_159 : decode cX7_count 159 = .ok (.invokevirtual 172, 3) := by decide +kernel
theorem dX7_count_162 : decode cX7_count 162 = .ok (.ireturn, 1) := by decide +kernel
theorem dX7_count_163 : decode cX7_count 163 = .ok (.aload_n 0, 1) := by decide +kernel
theorem dX7_count_164 : decode cX7_count 164 = .ok (.getfield 10, 3) := by decide +kernel
theorem dX7_count_167 : decode cX7_count 167 = .ok (.getfield 175, 3) := by decide +kernel
theorem dX7_count_170 : decode cX7_count 170 = .ok (.ireturn, 1) := by decide +kernel
theorem dX7_count_171 : decode cX7_count 171 = .ok (.aload_n 0, 1) := by decide +kernel
theorem dX7_count_172 : decode cX7_count 172 = .ok (.getfield 10, 3) := by decide +kernel
theorem dX7_count_175 : decode cX7_count 175 = .ok (.invokevirtual 178, 3) := by decide +kernel
theorem dX7_count_178 : decode cX7_count 178 = .ok (.ireturn, 1) := by decide +kernel
theorem dX7_count_179 : decode cX7_count 179 = .ok (.aload_n 0, 1) := by decide +kernel
theorem dX7_count_180 : decode cX7_count 180 = .ok (.getfield 10, 3) := by decide +kernel
theorem dX7_count_183 : decode cX7_count 183 = .ok (.getfield 181, 3) := by decide +kernel
theorem dX7_count_186 : decode cX7_count 186 = .ok (.ireturn, 1) := by decide +kernel
theorem dX7_count_187 : decode cX7_count 187 = .ok (.aload_n 0, 1) := by decide +kernel
theorem dX7_count_188 : decode cX7_count 188 = .ok (.getfield 10, 3) := by decide +kernel
theorem dX7_count_191 : decode cX7_count 191 = .ok (.getfield 184, 3) := by decide +kernel
theorem dX7_count_194 : decode cX7_count 194 = .ok (.ireturn, 1) := by decide +kernel
theorem dX7_count_195 : decode cX7_count 195 = .ok (.aload_n 0, 1) := by decide +kernel
theorem dX7_count_196 : decode cX7_count 196 = .ok (.getfield 22, 3) := by decide +kernel
theorem dX7_count_199 : decode cX7_count 199 = .ok (.getfield 187, 3) := by decide +kernel
theorem dX7_count_202 : decode cX7_count 202 = .ok (.ireturn, 1) := by decide +kernel
theorem dX7_count_203 : decode cX7_count 203 = .ok (.aload_n 0, 1) := by decide +kernel
theorem dX7_count_204 : decode cX7_count 204 = .ok (.getfield 29, 3) := by decide +kernel
theorem dX7_count_207 : decode cX7_count 207 = .ok (.getfield 188, 3) := by decide +kernel
theorem dX7_count_210 : decode cX7_count 210 = .ok (.ireturn, 1) := by decide +kernel
theorem dX7_count_211 : decode cX7_count 211 = .ok (.aload_n 0, 1) := by decide +kernel
theorem dX7_count_212 : decode cX7_count 212 = .ok (.getfield 10, 3) := by decide +kernel
theorem dX7_count_215 : decode cX7_count 215 = .ok (.getfield 100, 3) := by decide +kernel
theorem dX7_count_218 : decode cX7_count 218 = .ok (.iconst 0, 1) := by decide +kernel
theorem dX7_count_219 : decode cX7_count 219 = .ok (.iaload, 1) := by decide +kernel
theorem dX7_count_220 : decode cX7_count 220 = .ok (.ireturn, 1) := by decide +kernel
theorem dX7_count_221 : decode cX7_count 221 = .ok (.aload_n 0, 1) := by decide +kernel
theorem dX7_count_222 : decode cX7_count 222 = .ok (.getfield 10, 3) := by decide +kernel
theorem dX7_count_225 : decode cX7_count 225 = .ok (.getfield 100, 3) := by decide +kernel
theorem dX7_count_228 : decode cX7_count 228 = .ok (.iconst 1, 1) := by decide +kernel
theorem dX7_count_229 : decode cX7_count 229 = .ok (.iaload, 1) := by decide +kernel
theorem dX7_count_230 : decode cX7_count 230 = .ok (.ireturn, 1) := by decide +kernel
theorem dX7_count_231 : decode cX7_count 231 = .ok (.iconst (-1), 1) := by decide +kernel
theorem dX7_count_232 : decode cX7_count 232 = .ok (.ireturn, 1) := by decide +kernel
set_option maxRecDepth 20000 in
theorem ggX7_undo_X2_restore : GoodIn wsX7_undo wsX2_restore := goodIn_r _ [8, 9, 10, 11, 12, 13, 14, 15, 16, 17, 18, 19, 20, 21, 22, 23, 24, 25, 26, 27, 28, 29, 30, 31, 32, 33, 34, 35, 36, 37, 38, 39, 40, 41, 42, 43, 44, 45, 46, 47, 48, 49, 50, 51, 52, 53, 54, 55, 56, 57, 58, 59, 60, 61, 62, 63, 64, 65, 66, 67, 68, 69, 70, 71, 72, 73, 74, 80, 81, 82, 83, 84, 85, 86, 87, 88, 89, 90, 91, 92, 93, 94, 95, 96, 97, 98, 99, 100, 101, 102, 103, 104, 105, 106, 107, 108, 109, 110, 111, 112, 113, 114, 115] (by decide +kernel) (by decide +kernel)
set_option maxRecDepth 20000 in
theorem gX7_undo_X2_restore : GoodIn wsX7_undo (wsV RX7 191 RX2 yX2_restore wsX2_restore) := goodIn_app (goodIn_of _ (by decide +kernel)) ggX7_undo_X2_restore
theorem dX7_undo_0 : decode cX7_undo 0 = .ok (.aload_n 0, 1) := by decide +kernel
theorem dX7_undo_1 : decode cX7_undo 1 = .ok (.getfield 22, 3) := by decide +kernel
theorem dX7_undo_4 : decode cX7_undo 4 = .ok (.getfield 187, 3) := by decide +kernel
theorem dX7_undo_7 : decode cX7_undo 7 = .ok (.ifCond .ne 6, 3) := by decide +kernel
theorem dX7_undo_10 : decode cX7_undo 10 = .ok (.bipush (-2), 2) := by decide +kernel
theorem dX7_undo_12 : decode cX7_undo 12 = .ok (.ireturn, 1) := by decide +kernel
theorem dX7_undo_13 : decode cX7_undo 13 = .ok (.aload_n 0, 1) := by decide +kernel
theorem dX7_undo_14 : decode cX7_undo 14 = .ok (.getfield 22, 3) := by decide +kernel
theorem dX7_undo_17 : decode cX7_undo 17 = .ok (.aload_n 0, 1) := by decide +kernel
theorem dX7_undo_18 : decode cX7_undo 18 = .ok (.getfield 10, 3) := by decide +kernel
theorem dX7_undo_21 : decode cX7_undo 21 = .ok (.invokevirtual 191, 3) := by decide +kernel
theorem dX7_undo_24 : decode cX7_undo 24 = .ok (.aload_n 0, 1) := by decide +kernel
theorem dX7_undo_25 : decode cX7_undo 25 = .ok (.getfield 22, 3) := by decide +kernel
theorem dX7_undo_28 : decode cX7_undo 28 = .ok (.getfield 187, 3) := by decide +kernel
theorem dX7_undo_31 : decode cX7_undo 31 = .ok (.ireturn, 1) := by decide +kernel
set_option maxRecDepth 20000 in
theorem ggX7_sound_X3_roomAt : GoodIn wsX7_sound wsX3_roomAt := goodIn_r _ [14, 15, 16, 120, 121, 122, 123, 124, 125, 126, 127, 128, 129] (by decide +kernel) (by decide +kernel)
