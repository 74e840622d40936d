/-! names, words, instructions (of claim/NAMES.whole.lean.txt) -/
theorem dX3_init_37 : decode cX3_init 37 = .ok (.dup, 1) := by decide +kernel
theorem dX3_init_38 : decode cX3_init 38 = .ok (.iconst 0, 1) := by decide +kernel
theorem dX3_init_39 : decode cX3_init 39 = .ok (.ldc 30, 2) := by decide +kernel
theorem dX3_init_41 : decode cX3_init 41 = .ok (.iastore, 1) := by decide +kernel
theorem dX3_init_42 : decode cX3_init 42 = .ok (.dup, 1) := by decide +kernel
theorem dX3_init_43 : decode cX3_init 43 = .ok (.iconst 1, 1) := by decide +kernel
theorem dX3_init_44 : decode cX3_init 44 = .ok (.bipush 10, 2) := by decide +kernel
theorem dX3_init_46 : decode cX3_init 46 = .ok (.iastore, 1) := by decide +kernel
theorem dX3_init_47 : decode cX3_init 47 = .ok (.putfield 31, 3) := by decide +kernel
theorem dX3_init_50 : decode cX3_init 50 = .ok (.iconst 0, 1) := by decide +kernel
theorem dX3_init_51 : decode cX3_init 51 = .ok (.istore_n 1, 1) := by decide +kernel
theorem dX3_init_52 : decode cX3_init 52 = .ok (.iload_n 1, 1) := by decide +kernel
theorem dX3_init_53 : decode cX3_init 53 = .ok (.aload_n 0, 1) := by decide +kernel
theorem dX3_init_54 : decode cX3_init 54 = .ok (.getfield 11, 3) := by decide +kernel
theorem dX3_init_57 : decode cX3_init 57 = .ok (.arraylength, 1) := by decide +kernel
theorem dX3_init_58 : decode cX3_init 58 = .ok (.if_icmp .ge 22, 3) := by decide +kernel
theorem dX3_init_61 : decode cX3_init 61 = .ok (.aload_n 0, 1) := by decide +kernel
theorem dX3_init_62 : decode cX3_init 62 = .ok (.getfield 11, 3) := by decide +kernel
theorem dX3_init_65 : decode cX3_init 65 = .ok (.iload_n 1, 1) := by decide +kernel
theorem dX3_init_66 : decode cX3_init 66 = .ok (.new 9, 3) := by decide +kernel
theorem dX3_init_69 : decode cX3_init 69 = .ok (.dup, 1) := by decide +kernel
theorem dX3_init_70 : decode cX3_init 70 = .ok (.invokespecial 35, 3) := by decide +kernel
theorem dX3_init_73 : decode cX3_init 73 = .ok (.aastore, 1) := by decide +kernel
theorem dX3_init_74 : decode cX3_init 74 = .ok (.iinc 1 1, 3) := by decide +kernel
theorem dX3_init_77 : decode cX3_init 77 = .ok (.goto (-25), 3) := by decide +kernel
theorem dX3_init_80 : decode cX3_init 80 = .ok (.iconst 0, 1) := by decide +kernel
theorem dX3_init_81 : decode cX3_init 81 = .ok (.istore_n 1, 1) := by decide +kernel
theorem dX3_init_82 : decode cX3_init 82 = .ok (.iload_n 1, 1) := by decide +kernel
theorem dX3_init_83 : decode cX3_init 83 = .ok (.aload_n 0, 1) := by decide +kernel
theorem dX3_init_84 : decode cX3_init 84 = .ok (.getfield 19, 3) := by decide +kernel
theorem dX3_init_87 : decode cX3_init 87 = .ok (.arraylength, 1) := by decide +kernel
theorem dX3_init_88 : decode cX3_init 88 = .ok (.if_icmp .ge 22, 3) := by decide +kernel
theorem dX3_init_91 : decode cX3_init 91 = .ok (.aload_n 0, 1) := by decide +kernel
theorem dX3_init_92 : decode cX3_init 92 = .ok (.getfield 19, 3) := by decide +kernel
theorem dX3_init_95 : decode cX3_init 95 = .ok (.iload_n 1, 1) := by decide +kernel
theorem dX3_init_96 : decode cX3_init 96 = .ok (.new 17, 3) := by decide +kernel
theorem dX3_init_99 : decode cX3_init 99 = .ok (.dup, 1) := by decide +kernel
theorem dX3_init_100 : decode cX3_init 100 = .ok (.invokespecial 36, 3) := by decide +kernel
theorem dX3_init_103 : decode cX3_init 103 = .ok (.aastore, 1) := by decide +kernel
theorem dX3_init_104 : decode cX3_init 104 = .ok (.iinc 1 1, 3) := by decide +kernel
theorem dX3_init_107 : decode cX3_init 107 = .ok (.goto (-25), 3) := by decide +kernel
theorem dX3_init_110 : decode cX3_init 110 = .ok (.return_, 1) := by decide +kernel
set_option maxRecDepth 20000 in
theorem ggX3_copyFrom_X5_copyFrom : GoodIn wsX3_copyFrom wsX5_copyFrom := goodIn_r _ [19, 20, 21, 22, 23, 24, 25, 26, 27, 6, 7, 8, 70, 71, 72, 73, 74, 75, 76] (by decide +kernel) (by decide +kernel)
set_option maxRecDepth 20000 in
theorem gX3_copyFrom_X5_copyFrom : GoodIn wsX3_copyFrom (wsV RX3 37 RX5 yX5_copyFrom wsX5_copyFrom) := goodIn_app (goodIn_of _ (by decide +kernel)) ggX3_copyFrom_X5_copyFrom
set_option maxRecDepth 20000 in
theorem ggX3_copyFrom_X0_copyFrom : GoodIn wsX3_copyFrom wsX0_copyFrom := goodIn_r _ [32, 33, 34, 35, 36, 37, 38, 39, 40, 6, 7, 8, 41, 42, 77, 78, 79, 80, 81, 82, 83, 84, 85, 86] (by decide +kernel) (by decide +kernel)
set_option maxRecDepth 20000 in
theorem gX3_copyFrom_X0_copyFrom : GoodIn wsX3_copyFrom (wsV RX3 41 RX0 yX0_copyFrom wsX0_copyFrom) := goodIn_app (goodIn_of _ (by decide +kernel)) ggX3_copyFrom_X0_copyFrom
set_option maxRecDepth 20000 in
theorem ggX3_copyFrom_X4_copyFrom : GoodIn wsX3_copyFrom wsX4_copyFrom := goodIn_r _ [47, 48, 49, 50, 51, 52, 53, 54, 55, 56, 57, 58, 59, 87, 88, 89, 90, 91, 92, 93] (by decide +kernel) (by decide +kernel)
set_option maxRecDepth 20000 in
theorem gX3_copyFrom_X4_copyFrom : GoodIn wsX3_copyFrom (wsV RX3 44 RX4 yX4_copyFrom wsX4_copyFrom) := goodIn_app (goodIn_of _ (by decide +kernel)) ggX3_copyFrom_X4_copyFrom
theorem dX3_copyFrom_0 : decode cX3_copyFrom 0 = .ok (.iconst 0, 1) := by decide +kernel
theorem dX3_copyFrom_1 : decode cX3_copyFrom 1 = .ok (.istore_n 2, 1) := by decide +kernel
theorem dX3_copyFrom_2 : decode cX3_copyFrom 2 = .ok (.iload_n 2, 1) := by decide +kernel
theorem dX3_copyFrom_3 : decode cX3_copyFrom 3 = .ok (.aload_n 0, 1) := by decide +kernel
theorem dX3_copyFrom_4 : decode cX3_copyFrom 4 = .ok (.getfield 11, 3) := by decide +kernel
theorem dX3_copyFrom_7 : decode cX3_copyFrom 7 = .ok (.arraylength, 1) := by decide +kernel
theorem dX3_copyFrom_8 : decode cX3_copyFrom 8 = .ok (.if_icmp .ge 33, 3) := by decide +kernel
theorem dX3_copyFrom_11 : decode cX3_copyFrom 11 = .ok (.iload_n 2, 1) := by decide +kernel
theorem dX3_copyFrom_12 : decode cX3_copyFrom 12 = .ok (.aload_n 1, 1) := by decide +kernel
theorem dX3_copyFrom_13 : decode cX3_copyFrom 13 = .ok (.getfield 11, 3) := by decide +kernel
theorem dX3_copyFrom_16 : decode cX3_copyFrom 16 = .ok (.arraylength, 1) := by decide +kernel
theorem dX3_copyFrom_17 : decode cX3_copyFrom 17 = .ok (.if_icmp .ge 24, 3) := by decide +kernel
theorem dX3_copyFrom_20 : decode cX3_copyFrom 20 = .ok (.aload_n 0, 1) := by decide +kernel
theorem dX3_copyFrom_21 : decode cX3_copyFrom 21 = .ok (.getfield 11, 3) := by decide +kernel
theorem dX3_copyFrom_24 : decode cX3_copyFrom 24 = .ok (.iload_n 2, 1) := by decide +kernel
theorem dX3_copyFrom_25 : decode cX3_copyFrom 25 = .ok (.aaload, 1) := by decide +kernel
theorem dX3_copyFrom_26 : decode cX3_copyFrom 26 = .ok (.aload_n 1, 1) := by decide +kernel
theorem dX3_copyFrom_27 : decode cX3_copyFrom 27 = .ok (.getfield 11, 3) := by decide +kernel
theorem dX3_copyFrom_30 : decode cX3_copyFrom 30 = .ok (.iload_n 2, 1) := by decide +kernel
theorem dX3_copyFrom_31 : decode cX3_copyFrom 31 = .ok (.aaload, 1) := by decide +kernel
theorem dX3_copyFrom_32 : decode cX3_copyFrom 32 = .ok (.invokevirtual 37, 3) := by decide +kernel
theorem dX3_copyFrom_35 : decode cX3_copyFrom 35 = .ok (.iinc 2 1, 3) := by decide +kernel
theorem dX3_copyFrom_38 : decode cX3_copyFrom 38 = .ok (.goto (-36), 3) := by decide +kernel
theorem dX3_copyFrom_41 : decode cX3_copyFrom 41 = .ok (.iconst 0, 1) := by decide +kernel
theorem dX3_copyFrom_42 : decode cX3_copyFrom 42 = .ok (.istore_n 2, 1) := by decide +kernel
theorem dX3_copyFrom_43 : decode cX3_copyFrom 43 = .ok (.iload_n 2, 1) := by decide +kernel
theorem dX3_copyFrom_44 : decode cX3_copyFrom 44 = .ok (.aload_n 0, 1) := by decide +kernel
theorem dX3_copyFrom_45 : decode cX3_copyFrom 45 = .ok (.getfield 19, 3) := by decide +kernel
theorem dX3_copyFrom_48 : decode cX3_copyFrom 48 = .ok (.arraylength, 1) := by decide +kernel
theorem dX3_copyFrom_49 : decode cX3_copyFrom 49 = .ok (.if_icmp .ge 33, 3) := by decide +kernel
theorem dX3_copyFrom_52 : decode cX3_copyFrom 52 = .ok (.iload_n 2, 1) := by decide +kernel
theorem dX3_copyFrom_53 : decode cX3_copyFrom 53 = .ok (.aload_n 1, 1) := by decide +kernel
theorem dX3_copyFrom_54 : decode cX3_copyFrom 54 = .ok (.getfield 19, 3) := by decide +kernel
theorem dX3_copyFrom_57 : decode cX3_copyFrom 57 = .ok (.arraylength, 1) := by decide +kernel
theorem dX3_copyFrom_58 : decode cX3_copyFrom 58 = .ok (.if_icmp .ge 24, 3) := by decide +kernel
theorem dX3_copyFrom_61 : decode cX3_copyFrom 61 = .ok (.aload_n 0, 1) := by decide +kernel
theorem dX3_copyFrom_62 : decode cX3_copyFrom 62 = .ok (.getfield 19, 3) := by decide +kernel
theorem dX3_copyFrom_65 : decode cX3_copyFrom 65 = .ok (.iload_n 2, 1) := by decide +kernel
theorem dX3_copyFrom_66 : decode cX3_copyFrom 66 = .ok (.aaload, 1) := by decide +kernel
theorem dX3_copyFrom_67 : decode cX3_copyFrom 67 = .ok (.aload_n 1, 1) := by decide +kernel
theorem dX3_copyFrom_68 : decode cX3_copyFrom 68 = .ok (.getfield 19, 3) := by decide +kernel
theorem dX3_copyFrom_71 : decode cX3_copyFrom 71 = .ok (.iload_n 2, 1) := by decide +kernel
theorem dX3_copyFrom_72 : decode cX3_copyFrom 72 = .ok (.aaload, 1) := by decide +kernel
theorem dX3_copyFrom_73 : decode cX3_copyFrom 73 = .ok (.invokevirtual 41, 3) := by decide +kernel
theorem dX3_copyFrom_76 : decode cX3_copyFrom 76 = .ok (.iinc 2 1, 3) := by decide +kernel
theorem dX3_copyFrom_79 : decode cX3_copyFrom 79 = .ok (.goto (-36), 3) := by decide +kernel
theorem dX3_copyFrom_82 : decode cX3_copyFrom 82 = .ok (.aload_n 0, 1) := by decide +kernel
theorem dX3_copyFrom_83 : decode cX3_copyFrom 83 = .ok (.getfield 26, 3) := by decide +kernel
theorem dX3_copyFrom_86 : decode cX3_copyFrom 86 = .ok (.aload_n 1, 1) := by decide +kernel
theorem dX3_copyFrom_87 : decode cX3_copyFrom 87 = .ok (.getfield 26, 3) := by decide +kernel
theorem dX3_copyFrom_90 : decode cX3_copyFrom 90 = .ok (.invokevirtual 44, 3) := by decide +kernel
theorem dX3_copyFrom_93 : decode cX3_copyFrom 93 = .ok (.aload_n 1, 1) := by decide +kernel
theorem dX3_copyFrom_94 : decode cX3_copyFrom 94 = .ok (.getfield 31, 3) := by decide +kernel
theorem dX3_copyFrom_97 : decode cX3_copyFrom 97 = .ok (.iconst 0, 1) := by decide +kernel
theorem dX3_copyFrom_98 : decode cX3_copyFrom 98 = .ok (.aload_n 0, 1) := by decide +kernel
theorem dX3_copyFrom_99 : decode cX3_copyFrom 99 = .ok (.getfield 31, 3) := by decide +kernel
theorem dX3_copyFrom_102 : decode cX3_copyFrom 102 = .ok (.iconst 0, 1) := by decide +kernel
theorem dX3_copyFrom_103 : decode cX3_copyFrom 103 = .ok (.iconst 2, 1) := by decide +kernel
theorem dX3_copyFrom_104 : decode cX3_copyFrom 104 = .ok (.invokestatic 47, 3) := by decide +kernel
theorem dX3_copyFrom_107 : decode cX3_copyFrom 107 = .ok (.aload_n 0, 1) := by decide +kernel
theorem dX3_copyFrom_108 : decode cX3_copyFrom 108 = .ok (.aload_n 1, 1) := by decide +kernel
theorem dX3_copyFrom_109 : decode cX3_copyFrom 109 = .ok (.getfield 53, 3) := by decide +kernel
theorem dX3_copyFrom_112 : decode cX3_copyFrom 112 = .ok (.putfield 53, 3) := by decide +kernel
theorem dX3_copyFrom_115 : decode cX3_copyFrom 115 = .ok (.aload_n 0, 1) := by decide +kernel
theorem dX3_copyFrom_116 : decode cX3_copyFrom 116 = .ok (.aload_n 1, 1) := by decide +kernel
theorem dX3_copyFrom_117 : decode cX3_copyFrom 117 = .ok (.getfield 57, 3) := by decide +kernel
theorem dX3_copyFrom_120 : decode cX3_copyFrom 120 = .ok (.putfield 57, 3) := by decide +kernel
theorem dX3_copyFrom_123 : decode cX3_copyFrom 123 = .ok (.aload_n 0, 1) := by decide +kernel
theorem dX3_copyFrom_124 : decode cX3_copyFrom 124 = .ok (.aload_n 1, 1) := by decide +kernel
theorem dX3_copyFrom_125 : decode cX3_copyFrom 125 = .ok (.getfield 60, 3) := by decide +kernel
theorem dX3_copyFrom_128 : decode cX3_copyFrom 128 = .ok (.putfield 60, 3) := by decide +kernel
theorem dX3_copyFrom_131 : decode cX3_copyFrom 131 = .ok (.aload_n 0, 1) := by decide +kernel
theorem dX3_copyFrom_132 : decode cX3_copyFrom 132 = .ok (.aload_n 1, 1) := by decide +kernel
theorem dX3_copyFrom_133 : decode cX3_copyFrom 133 = .ok (.getfield 63, 3) := by decide +kernel
theorem dX3_copyFrom_136 : decode cX3_copyFrom 136 = .ok (.putfield 63, 3) := by decide +kernel
theorem dX3_copyFrom_139 : decode cX3_copyFrom 139 = .ok (.aload_n 0, 1) := by decide +kernel
theorem dX3_copyFrom_140 : decode cX3_copyFrom 140 = .ok (.aload_n 1, 1) := by decide +kernel
theorem dX3_copyFrom_141 : decode cX3_copyFrom 141 = .ok (.getfield 66, 3) := by decide +kernel
theorem dX3_copyFrom_144 : decode cX3_copyFrom 144 = .ok (.putfield 66, 3) := by decide +kernel
theorem dX3_copyFrom_147 : decode cX3_copyFrom 147 = .ok (.aload_n 0, 1) := by decide +kernel
theorem dX3_copyFrom_148 : decode cX3_copyFrom 148 = .ok (.aload_n 1, 1) := by decide +kernel
theorem dX3_copyFrom_149 : decode cX3_copyFrom 149 = .ok (.getfield 69, 3) := by decide +kernel
theorem dX3_copyFrom_152 : decode cX3_copyFrom 152 = .ok (.putfield 69, 3) := by decide +kernel
theorem dX3_copyFrom_155 : decode cX3_copyFrom 155 = .ok (.return_, 1) := by decide +kernel
theorem dX3_roomAt_0 : decode cX3_roomAt 0 = .ok (.iload_n 1, 1) := by decide +kernel
theorem dX3_roomAt_1 : decode cX3_roomAt 1 = .ok (.ifCond .lt 29, 3) := by decide +kernel
theorem dX3_roomAt_4 : decode cX3_roomAt 4 = .ok (.iload_n 1, 1) := by decide +kernel
theorem dX3_roomAt_5 : decode cX3_roomAt 5 = .ok (.aload_n 0, 1) := by decide +kernel
theorem dX3_roomAt_6 : decode cX3_roomAt 6 = .ok (.getfield 53, 3) := by decide +kernel
theorem dX3_roomAt_9 : decode cX3_roomAt 9 = .ok (.if_icmp .ge 21, 3) := by decide +kernel
theorem dX3_roomAt_12 : decode cX3_roomAt 12 = .ok (.iload_n 1, 1) := by decide +kernel
theorem dX3_roomAt_13 : decode cX3_roomAt 13 = .ok (.aload_n 0, 1) := by decide +kernel
theorem dX3_roomAt_14 : decode cX3_roomAt 14 = .ok (.getfield 11, 3) := by decide +kernel
theorem dX3_roomAt_17 : decode cX3_roomAt 17 = .ok (.arraylength, 1) := by decide +kernel
theorem dX3_roomAt_18 : decode cX3_roomAt 18 = .ok (.if_icmp .ge 12, 3) := by decide +kernel
theorem dX3_roomAt_21 : decode cX3_roomAt 21 = .ok (.aload_n 0, 1) := by decide +kernel
theorem dX3_roomAt_22 : decode cX3_roomAt 22 = .ok (.getfield 11, 3) := by decide +kernel
theorem dX3_roomAt_25 : decode cX3_roomAt 25 = .ok (.iload_n 1, 1) := by decide +kernel
theorem dX3_roomAt_26 : decode cX3_roomAt 26 = .ok (.aaload, 1) := by decide +kernel
theorem dX3_roomAt_27 : decode cX3_roomAt 27 = .ok (.goto 4, 3) := by decide +kernel
theorem dX3_roomAt_30 : decode cX3_roomAt 30 = .ok (.aconst_null, 1) := by decide +kernel
theorem dX3_roomAt_31 : decode cX3_roomAt 31 = .ok (.areturn, 1) := by decide +kernel
theorem dX3_doorAt_0 : decode cX3_doorAt 0 = .ok (.iload_n 1, 1) := by decide +kernel
theorem dX3_doorAt_1 : decode cX3_doorAt 1 = .ok (.ifCond .lt 29, 3) := by decide +kernel
theorem dX3_doorAt_4 : decode cX3_doorAt 4 = .ok (.iload_n 1, 1) := by decide +kernel
theorem dX3_doorAt_5 : decode cX3_doorAt 5 = .ok (.aload_n 0, 1) := by decide +kernel
theorem dX3_doorAt_6 : decode cX3_doorAt 6 = .ok (.getfield 57, 3) := by decide +kernel
theorem dX3_doorAt_9 : decode cX3_doorAt 9 = .ok (.if_icmp .ge 21, 3) := by decide +kernel
theorem dX3_doorAt_12 : decode cX3_doorAt 12 = .ok (.iload_n 1, 1) := by decide +kernel
theorem dX3_doorAt_13 : decode cX3_doorAt 13 = .ok (.aload_n 0, 1) := by decide +kernel
theorem dX3_doorAt_14 : decode cX3_doorAt 14 = .ok (.getfield 19, 3) := by decide +kernel
theorem dX3_doorAt_17 : decode cX3_doorAt 17 = .ok (.arraylength, 1) := by decide +kernel
theorem dX3_doorAt_18 : decode cX3_doorAt 18 = .ok (.if_icmp .ge 12, 3) := by decide +kernel
theorem dX3_doorAt_21 : decode cX3_doorAt 21 = .ok (.aload_n 0, 1) := by decide +kernel
theorem dX3_doorAt_22 : decode cX3_doorAt 22 = .ok (.getfield 19, 3) := by decide +kernel
theorem dX3_doorAt_25 : decode cX3_doorAt 25 = .ok (.iload_n 1, 1) := by decide +kernel
theorem dX3_doorAt_26 : decode cX3_doorAt 26 = .ok (.aaload, 1) := by decide +kernel
theorem dX3_doorAt_27 : decode cX3_doorAt 27 = .ok (.goto 4, 3) := by decide +kernel
theorem dX3_doorAt_30 : decode cX3_doorAt 30 = .ok (.aconst_null, 1) := by decide +kernel
theorem dX3_doorAt_31 : decode cX3_doorAt 31 = .ok (.areturn, 1) := by decide +kernel
set_option maxRecDepth 20000 in
theorem ggX3_addRoom_X5_begin : GoodIn wsX3_addRoom wsX5_begin := goodIn_r _ [8, 9, 10, 11, 22, 23, 24, 25, 26, 27, 28] (by decide +kernel) (by decide +kernel)
set_option maxRecDepth 20000 in
theorem gX3_addRoom_X5_begin : GoodIn wsX3_addRoom (wsV RX3 72 RX5 yX5_begin wsX5_begin) := goodIn_app (goodIn_of _ (by decide +kernel)) ggX3_addRoom_X5_begin
theorem dX3_addRoom_0 : decode cX3_addRoom 0 = .ok (.aload_n 0, 1) := by decide +kernel
theorem dX3_addRoom_1 : decode cX3_addRoom 1 = .ok (.getfield 53, 3) := by decide +kernel
theorem dX3_addRoom_4 : decode cX3_addRoom 4 = .ok (.ifCond .lt 15, 3) := by decide +kernel
theorem dX3_addRoom_7 : decode cX3_addRoom 7 = .ok (.aload_n 0, 1) := by decide +kernel
theorem dX3_addRoom_8 : decode cX3_addRoom 8 = .ok (.getfield 53, 3) := by decide +kernel
theorem dX3_addRoom_11 : decode cX3_addRoom 11 = .ok (.aload_n 0, 1) := by decide +kernel
theorem dX3_addRoom_12 : decode cX3_addRoom 12 = .ok (.getfield 11, 3) := by decide +kernel
theorem dX3_addRoom_15 : decode cX3_addRoom 15 = .ok (.arraylength, 1) := by decide +kernel
theorem dX3_addRoom_16 : decode cX3_addRoom 16 = .ok (.if_icmp .lt 6, 3) := by decide +kernel
theorem dX3_addRoom_19 : decode cX3_addRoom 19 = .ok (.bipush (-3), 2) := by decide +kernel
theorem dX3_addRoom_21 : decode cX3_addRoom 21 = .ok (.ireturn, 1) := by decide +kernel
theorem dX3_addRoom_22 : decode cX3_addRoom 22 = .ok (.aload_n 0, 1) := by decide +kernel
theorem dX3_addRoom_23 : decode cX3_addRoom 23 = .ok (.getfield 11, 3) := by decide +kernel
theorem dX3_addRoom_26 : decode cX3_addRoom 26 = .ok (.aload_n 0, 1) := by decide +kernel
theorem dX3_addRoom_27 : decode cX3_addRoom 27 = .ok (.getfield 53, 3) := by decide +kernel
theorem dX3_addRoom_30 : decode cX3_addRoom 30 = .ok (.aaload, 1) := by decide +kernel
theorem dX3_addRoom_31 : decode cX3_addRoom 31 = .ok (.iload_n 1, 1) := by decide +kernel
theorem dX3_addRoom_32 : decode cX3_addRoom 32 = .ok (.iload_n 2, 1) := by decide +kernel
theorem dX3_addRoom_33 : decode cX3_addRoom 33 = .ok (.aload_n 0, 1) := by decide +kernel
theorem dX3_addRoom_34 : decode cX3_addRoom 34 = .ok (.getfield 60, 3) := by decide +kernel
theorem dX3_addRoom_37 : decode cX3_addRoom 37 = .ok (.invokevirtual 72, 3) := by decide +kernel
theorem dX3_addRoom_40 : decode cX3_addRoom 40 = .ok (.aload_n 0, 1) := by decide +kernel
theorem dX3_addRoom_41 : decode cX3_addRoom 41 = .ok (.dup, 1) := by decide +kernel
theorem dX3_addRoom_42 : decode cX3_addRoom 42 = .ok (.getfield 53, 3) := by decide +kernel
theorem dX3_addRoom_45 : decode cX3_addRoom 45 = .ok (.dup_x1, 1) := by decide +kernel
theorem dX3_addRoom_46 : decode cX3_addRoom 46 = .ok (.iconst 1, 1) := by decide +kernel
theorem dX3_addRoom_47 : decode cX3_addRoom 47 = .ok (.iadd, 1) := by decide +kernel
theorem dX3_addRoom_48 : decode cX3_addRoom 48 = .ok (.putfield 53, 3) := by decide +kernel
theorem dX3_addRoom_51 : decode cX3_addRoom 51 = .ok (.ireturn, 1) := by decide +kernel
set_option maxRecDepth 20000 in
theorem ggX3_addDoor_X0_begin : GoodIn wsX3_addDoor wsX0_begin := goodIn_r _ [7, 8, 9, 10, 11, 22, 23, 24, 25, 26, 27, 28, 29, 30, 31] (by decide +kernel) (by decide +kernel)
set_option maxRecDepth 20000 in
theorem gX3_addDoor_X0_begin : GoodIn wsX3_addDoor (wsV RX3 76 RX0 yX0_begin wsX0_begin) := goodIn_app (goodIn_of _ (by decide +kernel)) ggX3_addDoor_X0_begin
theorem dX3_addDoor_0 : decode cX3_addDoor 0 = .ok (.aload_n 0, 1) := by decide +kernel
theorem dX3_addDoor_1 : decode cX3_addDoor 1 = .ok (.getfield 57, 3) := by decide +kernel
theorem dX3_addDoor_4 : decode cX3_addDoor 4 = .ok (.ifCond .lt 15, 3) := by decide +kernel
theorem dX3_addDoor_7 : decode cX3_addDoor 7 = .ok (.aload_n 0, 1) := by decide +kernel
theorem dX3_addDoor_8 : decode cX3_addDoor 8 = .ok (.getfield 57, 3) := by decide +kernel
theorem dX3_addDoor_11 : decode cX3_addDoor 11 = .ok (.aload_n 0, 1) := by decide +kernel
theorem dX3_addDoor_12 : decode cX3_addDoor 12 = .ok (.getfield 19, 3) := by decide +kernel
theorem dX3_addDoor_15 : decode cX3_addDoor 15 = .ok (.arraylength, 1) := by decide +kernel
theorem dX3_addDoor_16 : decode cX3_addDoor 16 = .ok (.if_icmp .lt 6, 3) := by decide +kernel
theorem dX3_addDoor_19 : decode cX3_addDoor 19 = .ok (.bipush (-3), 2) := by decide +kernel
theorem dX3_addDoor_21 : decode cX3_addDoor 21 = .ok (.ireturn, 1) := by decide +kernel
theorem dX3_addDoor_22 : decode cX3_addDoor 22 = .ok (.aload_n 0, 1) := by decide +kernel
theorem dX3_addDoor_23 : decode cX3_addDoor 23 = .ok (.getfield 19, 3) := by decide +kernel
theorem dX3_addDoor_26 : decode cX3_addDoor 26 = .ok (.aload_n 0, 1) := by decide +kernel
theorem dX3_addDoor_27 : decode cX3_addDoor 27 = .ok (.getfield 57, 3) := by decide +kernel
theorem dX3_addDoor_30 : decode cX3_addDoor 30 = .ok (.aaload, 1) := by decide +kernel
theorem dX3_addDoor_31 : decode cX3_addDoor 31 = .ok (.astore 6, 2) := by decide +kernel
theorem dX3_addDoor_33 : decode cX3_addDoor 33 = .ok (.aload 6, 2) := by decide +kernel
theorem dX3_addDoor_35 : decode cX3_addDoor 35 = .ok (.iload_n 1, 1) := by decide +kernel
theorem dX3_addDoor_36 : decode cX3_addDoor 36 = .ok (.iload_n 2, 1) := by decide +kernel
theorem dX3_addDoor_37 : decode cX3_addDoor 37 = .ok (.iload_n 3, 1) := by decide +kernel
theorem dX3_addDoor_38 : decode cX3_addDoor 38 = .ok (.iload 4, 2) := by decide +kernel
theorem dX3_addDoor_40 : decode cX3_addDoor 40 = .ok (.iload 5, 2) := by decide +kernel
theorem dX3_addDoor_42 : decode cX3_addDoor 42 = .ok (.invokevirtual 76, 3) := by decide +kernel
theorem dX3_addDoor_45 : decode cX3_addDoor 45 = .ok (.aload_n 0, 1) := by decide +kernel
theorem dX3_addDoor_46 : decode cX3_addDoor 46 = .ok (.dup, 1) := by decide +kernel
theorem dX3_addDoor_47 : decode cX3_addDoor 47 = .ok (.getfield 57, 3) := by decide +kernel
theorem dX3_addDoor_50 : decode cX3_addDoor 50 = .ok (.dup_x1, 1) := by decide +kernel
theorem dX3_addDoor_51 : decode cX3_addDoor 51 = .ok (.iconst 1, 1) := by decide +kernel
theorem dX3_addDoor_52 : decode cX3_addDoor 52 = .ok (.iadd, 1) := by decide +kernel
theorem dX3_addDoor_53 : decode cX3_addDoor 53 = .ok (.putfield 57, 3) := by decide +kernel
theorem dX3_addDoor_56 : decode cX3_addDoor 56 = .ok (.ireturn, 1) := by decide +kernel
set_option maxRecDepth 20000 in
theorem ggX3_hasWallFor_X3_roomAt : GoodIn wsX3_hasWallFor wsX3_roomAt := goodIn_r _ [8, 9, 10, 18, 19, 20, 21, 22, 23, 24, 25, 26, 27] (by decide +kernel) (by decide +kernel)
set_option maxRecDepth 20000 in
theorem gX3_hasWallFor_X3_roomAt : GoodIn wsX3_hasWallFor (wsV RX3 79 RX3 yX3_roomAt wsX3_roomAt) := goodIn_app (goodIn_of _ (by decide +kernel)) ggX3_hasWallFor_X3_roomAt
set_option maxRecDepth 20000 in
theorem ggX3_hasWallFor_X0_isAt : GoodIn wsX3_hasWallFor wsX0_isAt := goodIn_r _ [15, 16, 17, 28, 29, 30, 31, 32, 33, 34, 35, 36, 37] (by decide +kernel) (by decide +kernel)
set_option maxRecDepth 20000 in
theorem gX3_hasWallFor_X0_isAt : GoodIn wsX3_hasWallFor (wsV RX3 83 RX0 yX0_isAt wsX0_isAt) := goodIn_app (goodIn_of _ (by decide +kernel)) ggX3_hasWallFor_X0_isAt
theorem dX3_hasWallFor_0 : decode cX3_hasWallFor 0 = .ok (.aload_n 0, 1) := by decide +kernel
theorem dX3_hasWallFor_1 : decode cX3_hasWallFor 1 = .ok (.iload_n 1, 1) := by decide +kernel
theorem dX3_hasWallFor_2 : decode cX3_hasWallFor 2 = .ok (.invokevirtual 79, 3) := by decide +kernel
theorem dX3_hasWallFor_5 : decode cX3_hasWallFor 5 = .ok (.astore_n 3, 1) := by decide +kernel
theorem dX3_hasWallFor_6 : decode cX3_hasWallFor 6 = .ok (.aload_n 3, 1) := by decide +kernel
theorem dX3_hasWallFor_7 : decode cX3_hasWallFor 7 = .ok (.ifnonnull 5, 3) := by decide +kernel
theorem dX3_hasWallFor_10 : decode cX3_hasWallFor 10 = .ok (.iconst 1, 1) := by decide +kernel
theorem dX3_hasWallFor_11 : decode cX3_hasWallFor 11 = .ok (.ireturn, 1) := by decide +kernel
theorem dX3_hasWallFor_12 : decode cX3_hasWallFor 12 = .ok (.iload_n 2, 1) := by decide +kernel
theorem dX3_hasWallFor_13 : decode cX3_hasWallFor 13 = .ok (.istore 4, 2) := by decide +kernel
theorem dX3_hasWallFor_15 : decode cX3_hasWallFor 15 = .ok (.aload_n 0, 1) := by decide +kernel
theorem dX3_hasWallFor_16 : decode cX3_hasWallFor 16 = .ok (.getfield 19, 3) := by decide +kernel
theorem dX3_hasWallFor_19 : decode cX3_hasWallFor 19 = .ok (.astore 5, 2) := by decide +kernel
theorem dX3_hasWallFor_21 : decode cX3_hasWallFor 21 = .ok (.aload 5, 2) := by decide +kernel
theorem dX3_hasWallFor_23 : decode cX3_hasWallFor 23 = .ok (.arraylength, 1) := by decide +kernel
theorem dX3_hasWallFor_24 : decode cX3_hasWallFor 24 = .ok (.istore 6, 2) := by decide +kernel
theorem dX3_hasWallFor_26 : decode cX3_hasWallFor 26 = .ok (.iconst 0, 1) := by decide +kernel
theorem dX3_hasWallFor_27 : decode cX3_hasWallFor 27 = .ok (.istore 7, 2) := by decide +kernel
theorem dX3_hasWallFor_29 : decode cX3_hasWallFor 29 = .ok (.iload 7, 2) := by decide +kernel
theorem dX3_hasWallFor_31 : decode cX3_hasWallFor 31 = .ok (.iload 6, 2) := by decide +kernel
theorem dX3_hasWallFor_33 : decode cX3_hasWallFor 33 = .ok (.if_icmp .ge 39, 3) := by decide +kernel
theorem dX3_hasWallFor_36 : decode cX3_hasWallFor 36 = .ok (.aload 5, 2) := by decide +kernel
theorem dX3_hasWallFor_38 : decode cX3_hasWallFor 38 = .ok (.iload 7, 2) := by decide +kernel
theorem dX3_hasWallFor_40 : decode cX3_hasWallFor 40 = .ok (.aaload, 1) := by decide +kernel
theorem dX3_hasWallFor_41 : decode cX3_hasWallFor 41 = .ok (.astore 8, 2) := by decide +kernel
theorem dX3_hasWallFor_43 : decode cX3_hasWallFor 43 = .ok (.iload 4, 2) := by decide +kernel
theorem dX3_hasWallFor_45 : decode cX3_hasWallFor 45 = .ok (.aload 8, 2) := by decide +kernel
theorem dX3_hasWallFor_47 : decode cX3_hasWallFor 47 = .ok (.iload_n 1, 1) := by decide +kernel
theorem dX3_hasWallFor_48 : decode cX3_hasWallFor 48 = .ok (.invokevirtual 83, 3) := by decide +kernel
theorem dX3_hasWallFor_51 : decode cX3_hasWallFor 51 = .ok (.ifCond .eq 11, 3) := by decide +kernel
theorem dX3_hasWallFor_54 : decode cX3_hasWallFor 54 = .ok (.aload 8, 2) := by decide +kernel
theorem dX3_hasWallFor_56 : decode cX3_hasWallFor 56 = .ok (.getfield 87, 3) := by decide +kernel
theorem dX3_hasWallFor_59 : decode cX3_hasWallFor 59 = .ok (.goto 4, 3) := by decide +kernel
theorem dX3_hasWallFor_62 : decode cX3_hasWallFor 62 = .ok (.iconst 0, 1) := by decide +kernel
theorem dX3_hasWallFor_63 : decode cX3_hasWallFor 63 = .ok (.iadd, 1) := by decide +kernel
theorem dX3_hasWallFor_64 : decode cX3_hasWallFor 64 = .ok (.istore 4, 2) := by decide +kernel
theorem dX3_hasWallFor_66 : decode cX3_hasWallFor 66 = .ok (.iinc 7 1, 3) := by decide +kernel
theorem dX3_hasWallFor_69 : decode cX3_hasWallFor 69 = .ok (.goto (-40), 3) := by decide +kernel
theorem dX3_hasWallFor_72 : decode cX3_hasWallFor 72 = .ok (.iload 4, 2) := by decide +kernel
theorem dX3_hasWallFor_74 : decode cX3_hasWallFor 74 = .ok (.aload_n 3, 1) := by decide +kernel
theorem dX3_hasWallFor_75 : decode cX3_hasWallFor 75 = .ok (.getfield 90, 3) := by decide +kernel
theorem dX3_hasWallFor_78 : decode cX3_hasWallFor 78 = .ok (.if_icmp .gt 7, 3) := by decide +kernel
theorem dX3_hasWallFor_81 : decode cX3_hasWallFor 81 = .ok (.iconst 1, 1) := by decide +kernel
theorem dX3_hasWallFor_82 : decode cX3_hasWallFor 82 = .ok (.goto 4, 3) := by decide +kernel
theorem dX3_hasWallFor_85 : decode cX3_hasWallFor 85 = .ok (.iconst 0, 1) := by decide +kernel
theorem dX3_hasWallFor_86 : decode cX3_hasWallFor 86 = .ok (.ireturn, 1) := by decide +kernel
set_option maxRecDepth 20000 in
theorem ggX3_doorsOf_X0_isAt : GoodIn wsX3_doorsOf wsX0_isAt := goodIn_r _ [6, 7, 8, 19, 20, 21, 22, 23, 24, 25, 26, 27, 28] (by decide +kernel) (by decide +kernel)
set_option maxRecDepth 20000 in
theorem gX3_doorsOf_X0_isAt : GoodIn wsX3_doorsOf (wsV RX3 83 RX0 yX0_isAt wsX0_isAt) := goodIn_app (goodIn_of _ (by decide +kernel)) ggX3_doorsOf_X0_isAt
theorem dX3_doorsOf_0 : decode cX3_doorsOf 0 = .ok (.iconst 0, 1) := by decide +kernel
theorem dX3_doorsOf_1 : decode cX3_doorsOf 1 = .ok (.istore_n 2, 1) := by decide +kernel
theorem dX3_doorsOf_2 : decode cX3_doorsOf 2 = .ok (.aload_n 0, 1) := by decide +kernel
theorem dX3_doorsOf_3 : decode cX3_doorsOf 3 = .ok (.getfield 19, 3) := by decide +kernel
theorem dX3_doorsOf_6 : decode cX3_doorsOf 6 = .ok (.astore_n 3, 1) := by decide +kernel
theorem dX3_doorsOf_7 : decode cX3_doorsOf 7 = .ok (.aload_n 3, 1) := by decide +kernel
theorem dX3_doorsOf_8 : decode cX3_doorsOf 8 = .ok (.arraylength, 1) := by decide +kernel
theorem dX3_doorsOf_9 : decode cX3_doorsOf 9 = .ok (.istore 4, 2) := by decide +kernel
theorem dX3_doorsOf_11 : decode cX3_doorsOf 11 = .ok (.iconst 0, 1) := by decide +kernel
theorem dX3_doorsOf_12 : decode cX3_doorsOf 12 = .ok (.istore 5, 2) := by decide +kernel
theorem dX3_doorsOf_14 : decode cX3_doorsOf 14 = .ok (.iload 5, 2) := by decide +kernel
theorem dX3_doorsOf_16 : decode cX3_doorsOf 16 = .ok (.iload 4, 2) := by decide +kernel
theorem dX3_doorsOf_18 : decode cX3_doorsOf 18 = .ok (.if_icmp .ge 32, 3) := by decide +kernel
theorem dX3_doorsOf_21 : decode cX3_doorsOf 21 = .ok (.aload_n 3, 1) := by decide +kernel
theorem dX3_doorsOf_22 : decode cX3_doorsOf 22 = .ok (.iload 5, 2) := by decide +kernel
theorem dX3_doorsOf_24 : decode cX3_doorsOf 24 = .ok (.aaload, 1) := by decide +kernel
theorem dX3_doorsOf_25 : decode cX3_doorsOf 25 = .ok (.astore 6, 2) := by decide +kernel
theorem dX3_doorsOf_27 : decode cX3_doorsOf 27 = .ok (.iload_n 2, 1) := by decide +kernel
theorem dX3_doorsOf_28 : decode cX3_doorsOf 28 = .ok (.aload 6, 2) := by decide +kernel
theorem dX3_doorsOf_30 : decode cX3_doorsOf 30 = .ok (.iload_n 1, 1) := by decide +kernel
theorem dX3_doorsOf_31 : decode cX3_doorsOf 31 = .ok (.invokevirtual 83, 3) := by decide +kernel
theorem dX3_doorsOf_34 : decode cX3_doorsOf 34 = .ok (.ifCond .eq 7, 3) := by decide +kernel
theorem dX3_doorsOf_37 : decode cX3_doorsOf 37 = .ok (.iconst 1, 1) := by decide +kernel
theorem dX3_doorsOf_38 : decode cX3_doorsOf 38 = .ok (.goto 4, 3) := by decide +kernel
theorem dX3_doorsOf_41 : decode cX3_doorsOf 41 = .ok (.iconst 0, 1) := by decide +kernel
theorem dX3_doorsOf_42 : decode cX3_doorsOf 42 = .ok (.iadd, 1) := by decide +kernel
theorem dX3_doorsOf_43 : decode cX3_doorsOf 43 = .ok (.istore_n 2, 1) := by decide +kernel
theorem dX3_doorsOf_44 : decode cX3_doorsOf 44 = .ok (.iinc 5 1, 3) := by decide +kernel
theorem dX3_doorsOf_47 : decode cX3_doorsOf 47 = .ok (.goto (-33), 3) := by decide +kernel
theorem dX3_doorsOf_50 : decode cX3_doorsOf 50 = .ok (.iload_n 2, 1) := by decide +kernel
theorem dX3_doorsOf_51 : decode cX3_doorsOf 51 = .ok (.ireturn, 1) := by decide +kernel
set_option maxRecDepth 20000 in
theorem ggX3_reasonToRefuse_X3_densityAt : GoodIn wsX3_reasonToRefuse wsX3_densityAt := goodIn_r _ [14, 15, 16, 17, 13, 18, 19, 20, 21, 22, 23, 24, 25, 26, 27, 38, 39, 40, 41, 42, 43, 44, 45, 46, 47, 48, 49, 50, 51, 52, 53, 54] (by decide +kernel) (by decide +kernel)
set_option maxRecDepth 20000 in
theorem gX3_reasonToRefuse_X3_densityAt : GoodIn wsX3_reasonToRefuse (wsV RX3 103 RX3 yX3_densityAt wsX3_densityAt) := goodIn_app (goodIn_of _ (by decide +kernel)) ggX3_reasonToRefuse_X3_densityAt
theorem dX3_reasonToRefuse_0 : decode cX3_reasonToRefuse 0 = .ok (.aload_n 1, 1) := by decide +kernel
theorem dX3_reasonToRefuse_1 : decode cX3_reasonToRefuse 1 = .ok (.getfield 93, 3) := by decide +kernel
theorem dX3_reasonToRefuse_4 : decode cX3_reasonToRefuse 4 = .ok (.ifCond .eq 5, 3) := by decide +kernel
theorem dX3_reasonToRefuse_7 : decode cX3_reasonToRefuse 7 = .ok (.iconst 1, 1) := by decide +kernel
theorem dX3_reasonToRefuse_8 : decode cX3_reasonToRefuse 8 = .ok (.ireturn, 1) := by decide +kernel
theorem dX3_reasonToRefuse_9 : decode cX3_reasonToRefuse 9 = .ok (.aload_n 1, 1) := by decide +kernel
theorem dX3_reasonToRefuse_10 : decode cX3_reasonToRefuse 10 = .ok (.getfield 97, 3) := by decide +kernel
theorem dX3_reasonToRefuse_13 : decode cX3_reasonToRefuse 13 = .ok (.iload_n 2, 1) := by decide +kernel
theorem dX3_reasonToRefuse_14 : decode cX3_reasonToRefuse 14 = .ok (.if_icmp .ne 5, 3) := by decide +kernel
theorem dX3_reasonToRefuse_17 : decode cX3_reasonToRefuse 17 = .ok (.iconst 2, 1) := by decide +kernel
theorem dX3_reasonToRefuse_18 : decode cX3_reasonToRefuse 18 = .ok (.ireturn, 1) := by decide +kernel
theorem dX3_reasonToRefuse_19 : decode cX3_reasonToRefuse 19 = .ok (.aload_n 0, 1) := by decide +kernel
theorem dX3_reasonToRefuse_20 : decode cX3_reasonToRefuse 20 = .ok (.aload_n 1, 1) := by decide +kernel
theorem dX3_reasonToRefuse_21 : decode cX3_reasonToRefuse 21 = .ok (.getfield 100, 3) := by decide +kernel
theorem dX3_reasonToRefuse_24 : decode cX3_reasonToRefuse 24 = .ok (.iconst 0, 1) := by decide +kernel
theorem dX3_reasonToRefuse_25 : decode cX3_reasonToRefuse 25 = .ok (.iaload, 1) := by decide +kernel
theorem dX3_reasonToRefuse_26 : decode cX3_reasonToRefuse 26 = .ok (.invokevirtual 103, 3) := by decide +kernel
theorem dX3_reasonToRefuse_29 : decode cX3_reasonToRefuse 29 = .ok (.aload_n 0, 1) := by decide +kernel
theorem dX3_reasonToRefuse_30 : decode cX3_reasonToRefuse 30 = .ok (.aload_n 1, 1) := by decide +kernel
theorem dX3_reasonToRefuse_31 : decode cX3_reasonToRefuse 31 = .ok (.getfield 100, 3) := by decide +kernel
theorem dX3_reasonToRefuse_34 : decode cX3_reasonToRefuse 34 = .ok (.iconst 1, 1) := by decide +kernel
theorem dX3_reasonToRefuse_35 : decode cX3_reasonToRefuse 35 = .ok (.iaload, 1) := by decide +kernel
theorem dX3_reasonToRefuse_36 : decode cX3_reasonToRefuse 36 = .ok (.invokevirtual 103, 3) := by decide +kernel
theorem dX3_reasonToRefuse_39 : decode cX3_reasonToRefuse 39 = .ok (.isub, 1) := by decide +kernel
theorem dX3_reasonToRefuse_40 : decode cX3_reasonToRefuse 40 = .ok (.invokestatic 107, 3) := by decide +kernel
theorem dX3_reasonToRefuse_43 : decode cX3_reasonToRefuse 43 = .ok (.istore_n 3, 1) := by decide +kernel
theorem dX3_reasonToRefuse_44 : decode cX3_reasonToRefuse 44 = .ok (.iload_n 2, 1) := by decide +kernel
theorem dX3_reasonToRefuse_45 : decode cX3_reasonToRefuse 45 = .ok (.aload_n 1, 1) := by decide +kernel
theorem dX3_reasonToRefuse_46 : decode cX3_reasonToRefuse 46 = .ok (.getfield 112, 3) := by decide +kernel
theorem dX3_reasonToRefuse_49 : decode cX3_reasonToRefuse 49 = .ok (.if_icmp .le 15, 3) := by decide +kernel
theorem dX3_reasonToRefuse_52 : decode cX3_reasonToRefuse 52 = .ok (.iload_n 3, 1) := by decide +kernel
theorem dX3_reasonToRefuse_53 : decode cX3_reasonToRefuse 53 = .ok (.aload_n 0, 1) := by decide +kernel
theorem dX3_reasonToRefuse_54 : decode cX3_reasonToRefuse 54 = .ok (.getfield 31, 3) := by decide +kernel
theorem dX3_reasonToRefuse_57 : decode cX3_reasonToRefuse 57 = .ok (.iconst 0, 1) := by decide +kernel
theorem dX3_reasonToRefuse_58 : decode cX3_reasonToRefuse 58 = .ok (.iaload, 1) := by decide +kernel
theorem dX3_reasonToRefuse_59 : decode cX3_reasonToRefuse 59 = .ok (.if_icmp .le 5, 3) := by decide +kernel
theorem dX3_reasonToRefuse_62 : decode cX3_reasonToRefuse 62 = .ok (.iconst 3, 1) := by decide +kernel
theorem dX3_reasonToRefuse_63 : decode cX3_reasonToRefuse 63 = .ok (.ireturn, 1) := by decide +kernel
theorem dX3_reasonToRefuse_64 : decode cX3_reasonToRefuse 64 = .ok (.iconst 0, 1) := by decide +kernel
theorem dX3_reasonToRefuse_65 : decode cX3_reasonToRefuse 65 = .ok (.ireturn, 1) := by decide +kernel
set_option maxRecDepth 20000 in
theorem ggX3_densityAt_X3_roomAt : GoodIn wsX3_densityAt wsX3_roomAt := goodIn_r _ [5, 6, 7, 15, 16, 17, 18, 19, 20, 21, 22, 23, 24] (by decide +kernel) (by decide +kernel)
set_option maxRecDepth 20000 in
theorem gX3_densityAt_X3_roomAt : GoodIn wsX3_densityAt (wsV RX3 79 RX3 yX3_roomAt wsX3_roomAt) := goodIn_app (goodIn_of _ (by decide +kernel)) ggX3_densityAt_X3_roomAt
set_option maxRecDepth 20000 in
theorem ggX3_densityAt_X5_density : GoodIn wsX3_densityAt wsX5_density := goodIn_r _ [12, 13, 14, 25, 26, 27, 28, 29, 30, 31] (by decide +kernel) (by decide +kernel)
set_option maxRecDepth 20000 in
theorem gX3_densityAt_X5_density : GoodIn wsX3_densityAt (wsV RX3 119 RX5 yX5_density wsX5_density) := goodIn_app (goodIn_of _ (by decide +kernel)) ggX3_densityAt_X5_density
theorem dX3_densityAt_0 : decode cX3_densityAt 0 = .ok (.aload_n 0, 1) := by decide +kernel
theorem dX3_densityAt_1 : decode cX3_densityAt 1 = .ok (.iload_n 1, 1) := by decide +kernel
theorem dX3_densityAt_2 : decode cX3_densityAt 2 = .ok (.invokevirtual 79, 3) := by decide +kernel
theorem dX3_densityAt_5 : decode cX3_densityAt 5 = .ok (.astore_n 2, 1) := by decide +kernel
theorem dX3_densityAt_6 : decode cX3_densityAt 6 = .ok (.aload_n 2, 1) := by decide +kernel
theorem dX3_densityAt_7 : decode cX3_densityAt 7 = .ok (.ifnonnull 7, 3) := by decide +kernel
theorem dX3_densityAt_10 : decode cX3_densityAt 10 = .ok (.iconst 0, 1) := by decide +kernel
theorem dX3_densityAt_11 : decode cX3_densityAt 11 = .ok (.goto 7, 3) := by decide +kernel
theorem dX3_densityAt_14 : decode cX3_densityAt 14 = .ok (.aload_n 2, 1) := by decide +kernel
theorem dX3_densityAt_15 : decode cX3_densityAt 15 = .ok (.invokevirtual 119, 3) := by decide +kernel
theorem dX3_densityAt_18 : decode cX3_densityAt 18 = .ok (.ireturn, 1) := by decide +kernel
theorem dX3_energyInRooms_0 : decode cX3_energyInRooms 0 = .ok (.iconst 0, 1) := by decide +kernel
theorem dX3_energyInRooms_1 : decode cX3_energyInRooms 1 = .ok (.istore_n 1, 1) := by decide +kernel
theorem dX3_energyInRooms_2 : decode cX3_energyInRooms 2 = .ok (.aload_n 0, 1) := by decide +kernel
theorem dX3_energyInRooms_3 : decode cX3_energyInRooms 3 = .ok (.getfield 11, 3) := by decide +kernel
theorem dX3_energyInRooms_6 : decode cX3_energyInRooms 6 = .ok (.astore_n 2, 1) := by decide +kernel
theorem dX3_energyInRooms_7 : decode cX3_energyInRooms 7 = .ok (.aload_n 2, 1) := by decide +kernel
theorem dX3_energyInRooms_8 : decode cX3_energyInRooms 8 = .ok (.arraylength, 1) := by decide +kernel
theorem dX3_energyInRooms_9 : decode cX3_energyInRooms 9 = .ok (.istore_n 3, 1) := by decide +kernel
theorem dX3_energyInRooms_10 : decode cX3_energyInRooms 10 = .ok (.iconst 0, 1) := by decide +kernel
theorem dX3_energyInRooms_11 : decode cX3_energyInRooms 11 = .ok (.istore 4, 2) := by decide +kernel
theorem dX3_energyInRooms_13 : decode cX3_energyInRooms 13 = .ok (.iload 4, 2) := by decide +kernel
theorem dX3_energyInRooms_15 : decode cX3_energyInRooms 15 = .ok (.iload_n 3, 1) := by decide +kernel
theorem dX3_energyInRooms_16 : decode cX3_energyInRooms 16 = .ok (.if_icmp .ge 23, 3) := by decide +kernel
theorem dX3_energyInRooms_19 : decode cX3_energyInRooms 19 = .ok (.aload_n 2, 1) := by decide +kernel
theorem dX3_energyInRooms_20 : decode cX3_energyInRooms 20 = .ok (.iload 4, 2) := by decide +kernel
theorem dX3_energyInRooms_22 : decode cX3_energyInRooms 22 = .ok (.aaload, 1) := by decide +kernel
theorem dX3_energyInRooms_23 : decode cX3_energyInRooms 23 = .ok (.astore 5, 2) := by decide +kernel
theorem dX3_energyInRooms_25 : decode cX3_energyInRooms 25 = .ok (.iload_n 1, 1) := by decide +kernel
theorem dX3_energyInRooms_26 : decode cX3_energyInRooms 26 = .ok (.aload 5, 2) := by decide +kernel
theorem dX3_energyInRooms_28 : decode cX3_energyInRooms 28 = .ok (.getfield 123, 3) := by decide +kernel
theorem dX3_energyInRooms_31 : decode cX3_energyInRooms 31 = .ok (.iadd, 1) := by decide +kernel
theorem dX3_energyInRooms_32 : decode cX3_energyInRooms 32 = .ok (.istore_n 1, 1) := by decide +kernel
theorem dX3_energyInRooms_33 : decode cX3_energyInRooms 33 = .ok (.iinc 4 1, 3) := by decide +kernel
theorem dX3_energyInRooms_36 : decode cX3_energyInRooms 36 = .ok (.goto (-23), 3) := by decide +kernel
theorem dX3_energyInRooms_39 : decode cX3_energyInRooms 39 = .ok (.iload_n 1, 1) := by decide +kernel
theorem dX3_energyInRooms_40 : decode cX3_energyInRooms 40 = .ok (.ireturn, 1) := by decide +kernel
set_option maxRecDepth 20000 in
theorem ggX3_energyOnItsWay_X0_energyOnItsWay : GoodIn wsX3_energyOnItsWay wsX0_energyOnItsWay := goodIn_r _ [6, 7, 18, 19, 20, 21, 22, 23, 24, 25, 26, 27] (by decide +kernel) (by decide +kernel)
set_option maxRecDepth 20000 in
theorem gX3_energyOnItsWay_X0_energyOnItsWay : GoodIn wsX3_energyOnItsWay (wsV RX3 126 RX0 yX0_energyOnItsWay wsX0_energyOnItsWay) := goodIn_app (goodIn_of _ (by decide +kernel)) ggX3_energyOnItsWay_X0_energyOnItsWay
theorem dX3_energyOnItsWay_0 : decode cX3_energyOnItsWay 0 = .ok (.iconst 0, 1) := by decide +kernel
theorem dX3_energyOnItsWay_1 : decode cX3_energyOnItsWay 1 = .ok (.istore_n 1, 1) := by decide +kernel
theorem dX3_energyOnItsWay_2 : decode cX3_energyOnItsWay 2 = .ok (.aload_n 0, 1) := by decide +kernel
theorem dX3_energyOnItsWay_3 : decode cX3_energyOnItsWay 3 = .ok (.getfield 19, 3) := by decide +kernel
theorem dX3_energyOnItsWay_6 : decode cX3_energyOnItsWay 6 = .ok (.astore_n 2, 1) := by decide +kernel
theorem dX3_energyOnItsWay_7 : decode cX3_energyOnItsWay 7 = .ok (.aload_n 2, 1) := by decide +kernel
theorem dX3_energyOnItsWay_8 : decode cX3_energyOnItsWay 8 = .ok (.arraylength, 1) := by decide +kernel
theorem dX3_energyOnItsWay_9 : decode cX3_energyOnItsWay 9 = .ok (.istore_n 3, 1) := by decide +kernel
theorem dX3_energyOnItsWay_10 : decode cX3_energyOnItsWay 10 = .ok (.iconst 0, 1) := by decide +kernel
theorem dX3_energyOnItsWay_11 : decode cX3_energyOnItsWay 11 = .ok (.istore 4, 2) := by decide +kernel
theorem dX3_energyOnItsWay_13 : decode cX3_energyOnItsWay 13 = .ok (.iload 4, 2) := by decide +kernel
theorem dX3_energyOnItsWay_15 : decode cX3_energyOnItsWay 15 = .ok (.iload_n 3, 1) := by decide +kernel
theorem dX3_energyOnItsWay_16 : decode cX3_energyOnItsWay 16 = .ok (.if_icmp .ge 23, 3) := by decide +kernel
theorem dX3_energyOnItsWay_19 : decode cX3_energyOnItsWay 19 = .ok (.aload_n 2, 1) := by decide +kernel
theorem dX3_energyOnItsWay_20 : decode cX3_energyOnItsWay 20 = .ok (.iload 4, 2) := by decide +kernel
theorem dX3_energyOnItsWay_22 : decode cX3_energyOnItsWay 22 = .ok (.aaload, 1) := by decide +kernel
theorem dX3_energyOnItsWay_23 : decode cX3_energyOnItsWay 23 = .ok (.astore 5, 2) := by decide +kernel
theorem dX3_energyOnItsWay_25 : decode cX3_energyOnItsWay 25 = .ok (.iload_n 1, 1) := by decide +kernel
theorem dX3_energyOnItsWay_26 : decode cX3_energyOnItsWay 26 = .ok (.aload 5, 2) := by decide +kernel
theorem dX3_energyOnItsWay_28 : decode cX3_energyOnItsWay 28 = .ok (.invokevirtual 126, 3) := by decide +kernel
theorem dX3_energyOnItsWay_31 : decode cX3_energyOnItsWay 31 = .ok (.iadd, 1) := by decide +kernel
theorem dX3_energyOnItsWay_32 : decode cX3_energyOnItsWay 32 = .ok (.istore_n 1, 1) := by decide +kernel
theorem dX3_energyOnItsWay_33 : decode cX3_energyOnItsWay 33 = .ok (.iinc 4 1, 3) := by decide +kernel
theorem dX3_energyOnItsWay_36 : decode cX3_energyOnItsWay 36 = .ok (.goto (-23), 3) := by decide +kernel
theorem dX3_energyOnItsWay_39 : decode cX3_energyOnItsWay 39 = .ok (.iload_n 1, 1) := by decide +kernel
theorem dX3_energyOnItsWay_40 : decode cX3_energyOnItsWay 40 = .ok (.ireturn, 1) := by decide +kernel
theorem dX3_energyAbsorbed_0 : decode cX3_energyAbsorbed 0 = .ok (.iconst 0, 1) := by decide +kernel
theorem dX3_energyAbsorbed_1 : decode cX3_energyAbsorbed 1 = .ok (.istore_n 1, 1) := by decide +kernel
theorem dX3_energyAbsorbed_2 : decode cX3_energyAbsorbed 2 = .ok (.aload_n 0, 1) := by decide +kernel
theorem dX3_energyAbsorbed_3 : decode cX3_energyAbsorbed 3 = .ok (.getfield 11, 3) := by decide +kernel
theorem dX3_energyAbsorbed_6 : decode cX3_energyAbsorbed 6 = .ok (.astore_n 2, 1) := by decide +kernel
theorem dX3_energyAbsorbed_7 : decode cX3_energyAbsorbed 7 = .ok (.aload_n 2, 1) := by decide +kernel
theorem dX3_energyAbsorbed_8 : decode cX3_energyAbsorbed 8 = .ok (.arraylength, 1) := by decide +kernel
theorem dX3_energyAbsorbed_9 : decode cX3_energyAbsorbed 9 = .ok (.istore_n 3, 1) := by decide +kernel
theorem dX3_energyAbsorbed_10 : decode cX3_energyAbsorbed 10 = .ok (.iconst 0, 1) := by decide +kernel
theorem dX3_energyAbsorbed_11 : decode cX3_energyAbsorbed 11 = .ok (.istore 4, 2) := by decide +kernel
theorem dX3_energyAbsorbed_13 : decode cX3_energyAbsorbed 13 = .ok (.iload 4, 2) := by decide +kernel
theorem dX3_energyAbsorbed_15 : decode cX3_energyAbsorbed 15 = .ok (.iload_n 3, 1) := by decide +kernel
theorem dX3_energyAbsorbed_16 : decode cX3_energyAbsorbed 16 = .ok (.if_icmp .ge 23, 3) := by decide +kernel
theorem dX3_energyAbsorbed_19 : decode cX3_energyAbsorbed 19 = .ok (.aload_n 2, 1) := by decide +kernel
theorem dX3_energyAbsorbed_20 : decode cX3_energyAbsorbed 20 = .ok (.iload 4, 2) := by decide +kernel
theorem dX3_energyAbsorbed_22 : decode cX3_energyAbsorbed 22 = .ok (.aaload, 1) := by decide +kernel
theorem dX3_energyAbsorbed_23 : decode cX3_energyAbsorbed 23 = .ok (.astore 5, 2) := by decide +kernel
theorem dX3_energyAbsorbed_25 : decode cX3_energyAbsorbed 25 = .ok (.iload_n 1, 1) := by decide +kernel
theorem dX3_energyAbsorbed_26 : decode cX3_energyAbsorbed 26 = .ok (.aload 5, 2) := by decide +kernel
theorem dX3_energyAbsorbed_28 : decode cX3_energyAbsorbed 28 = .ok (.getfield 129, 3) := by decide +kernel
theorem dX3_energyAbsorbed_31 : decode cX3_energyAbsorbed 31 = .ok (.iadd, 1) := by decide +kernel
theorem dX3_energyAbsorbed_32 : decode cX3_energyAbsorbed 32 = .ok (.istore_n 1, 1) := by decide +kernel
theorem dX3_energyAbsorbed_33 : decode cX3_energyAbsorbed 33 = .ok (.iinc 4 1, 3) := by decide +kernel
theorem dX3_energyAbsorbed_36 : decode cX3_energyAbsorbed 36 = .ok (.goto (-23), 3) := by decide +kernel
theorem dX3_energyAbsorbed_39 : decode cX3_energyAbsorbed 39 = .ok (.iload_n 1, 1) := by decide +kernel
theorem dX3_energyAbsorbed_40 : decode cX3_energyAbsorbed 40 = .ok (.ireturn, 1) := by decide +kernel
theorem dX3_energyGiven_0 : decode cX3_energyGiven 0 = .ok (.iconst 0, 1) := by decide +kernel
theorem dX3_energyGiven_1 : decode cX3_energyGiven 1 = .ok (.istore_n 1, 1) := by decide +kernel
theorem dX3_energyGiven_2 : decode cX3_energyGiven 2 = .ok (.aload_n 0, 1) := by decide +kernel
theorem dX3_energyGiven_3 : decode cX3_energyGiven 3 = .ok (.getfield 11, 3) := by decide +kernel
theorem dX3_energyGiven_6 : decode cX3_energyGiven 6 = .ok (.astore_n 2, 1) := by decide +kernel
theorem dX3_energyGiven_7 : decode cX3_energyGiven 7 = .ok (.aload_n 2, 1) := by decide +kernel
theorem dX3_energyGiven_8 : decode cX3_energyGiven 8 = .ok (.arraylength, 1) := by decide +kernel
theorem dX3_energyGiven_9 : decode cX3_energyGiven 9 = .ok (.istore_n 3, 1) := by decide +kernel
theorem dX3_energyGiven_10 : decode cX3_energyGiven 10 = .ok (.iconst 0, 1) := by decide +kernel
theorem dX3_energyGiven_11 : decode cX3_energyGiven 11 = .ok (.istore 4, 2) := by decide +kernel
theorem dX3_energyGiven_13 : decode cX3_energyGiven 13 = .ok (.iload 4, 2) := by decide +kernel
theorem dX3_energyGiven_15 : decode cX3_energyGiven 15 = .ok (.iload_n 3, 1) := by decide +kernel
theorem dX3_energyGiven_16 : decode cX3_energyGiven 16 = .ok (.if_icmp .ge 23, 3) := by decide +kernel
theorem dX3_energyGiven_19 : decode cX3_energyGiven 19 = .ok (.aload_n 2, 1) := by decide +kernel
theorem dX3_energyGiven_20 : decode cX3_energyGiven 20 = .ok (.iload 4, 2) := by decide +kernel
theorem dX3_energyGiven_22 : decode cX3_energyGiven 22 = .ok (.aaload, 1) := by decide +kernel
theorem dX3_energyGiven_23 : decode cX3_energyGiven 23 = .ok (.astore 5, 2) := by decide +kernel
theorem dX3_energyGiven_25 : decode cX3_energyGiven 25 = .ok (.iload_n 1, 1) := by decide +kernel
theorem dX3_energyGiven_26 : decode cX3_energyGiven 26 = .ok (.aload 5, 2) := by decide +kernel
theorem dX3_energyGiven_28 : decode cX3_energyGiven 28 = .ok (.getfield 132, 3) := by decide +kernel
theorem dX3_energyGiven_31 : decode cX3_energyGiven 31 = .ok (.iadd, 1) := by decide +kernel
theorem dX3_energyGiven_32 : decode cX3_energyGiven 32 = .ok (.istore_n 1, 1) := by decide +kernel
theorem dX3_energyGiven_33 : decode cX3_energyGiven 33 = .ok (.iinc 4 1, 3) := by decide +kernel
theorem dX3_energyGiven_36 : decode cX3_energyGiven 36 = .ok (.goto (-23), 3) := by decide +kernel
theorem dX3_energyGiven_39 : decode cX3_energyGiven 39 = .ok (.iload_n 1, 1) := by decide +kernel
theorem dX3_energyGiven_40 : decode cX3_energyGiven 40 = .ok (.ireturn, 1) := by decide +kernel
set_option maxRecDepth 20000 in
theorem ggX3_take_X4_insert : GoodIn wsX3_take wsX4_insert := goodIn_r _ [7, 8, 9, 10, 11, 12, 13, 14, 15, 16, 17, 18, 19, 20, 35, 36, 37, 38, 39, 40, 41] (by decide +kernel) (by decide +kernel)
set_option maxRecDepth 20000 in
theorem gX3_take_X4_insert : GoodIn wsX3_take (wsV RX3 143 RX4 yX4_insert wsX4_insert) := goodIn_app (goodIn_of _ (by decide +kernel)) ggX3_take_X4_insert
set_option maxRecDepth 20000 in
theorem ggX3_take_X1_allEnergy : GoodIn wsX3_take wsX1_allEnergy := goodIn_r _ [24, 16, 19, 20, 37, 38, 39, 40, 41] (by decide +kernel) (by decide +kernel)
set_option maxRecDepth 20000 in
theorem gX3_take_X1_allEnergy : GoodIn wsX3_take (wsV RX3 147 RX1 yX1_allEnergy wsX1_allEnergy) := goodIn_app (goodIn_of _ (by decide +kernel)) ggX3_take_X1_allEnergy
theorem dX3_take_0 : decode cX3_take 0 = .ok (.aload_n 0, 1) := by decide +kernel
theorem dX3_take_1 : decode cX3_take 1 = .ok (.getfield 26, 3) := by decide +kernel
theorem dX3_take_4 : decode cX3_take 4 = .ok (.aload_n 1, 1) := by decide +kernel
theorem dX3_take_5 : decode cX3_take 5 = .ok (.invokevirtual 143, 3) := by decide +kernel
theorem dX3_take_8 : decode cX3_take 8 = .ok (.aload_n 0, 1) := by decide +kernel
theorem dX3_take_9 : decode cX3_take 9 = .ok (.dup, 1) := by decide +kernel
theorem dX3_take_10 : decode cX3_take 10 = .ok (.getfield 66, 3) := by decide +kernel
theorem dX3_take_13 : decode cX3_take 13 = .ok (.aload_n 1, 1) := by decide +kernel
theorem dX3_take_14 : decode cX3_take 14 = .ok (.invokevirtual 147, 3) := by decide +kernel
theorem dX3_take_17 : decode cX3_take 17 = .ok (.iadd, 1) := by decide +kernel
theorem dX3_take_18 : decode cX3_take 18 = .ok (.putfield 66, 3) := by decide +kernel
theorem dX3_take_21 : decode cX3_take 21 = .ok (.return_, 1) := by decide +kernel
set_option maxRecDepth 20000 in
theorem ggX3_goOn_X5_keepEnergy : GoodIn wsX3_goOn wsX5_keepEnergy := goodIn_r _ [9, 10, 11, 12, 13, 14, 15, 164, 165, 166, 167, 168, 169, 170] (by decide +kernel) (by decide +kernel)
set_option maxRecDepth 20000 in
theorem gX3_goOn_X5_keepEnergy : GoodIn wsX3_goOn (wsV RX3 152 RX5 yX5_keepEnergy wsX5_keepEnergy) := goodIn_app (goodIn_of _ (by decide +kernel)) ggX3_goOn_X5_keepEnergy
set_option maxRecDepth 20000 in
theorem ggX3_goOn_X3_aimPlannedDoors : GoodIn wsX3_goOn wsX3_aimPlannedDoors := goodIn_r _ [20, 4, 21, 3, 22, 23, 24, 25, 26, 27, 28, 29, 30, 31, 32, 33, 34, 35, 36, 37, 38, 39, 40, 19, 41, 42, 43, 44, 45, 46, 47, 48, 49, 50, 154, 155, 156, 157, 158, 159, 160, 161, 162, 163, 171, 172, 173, 174, 175, 176, 177, 178, 179, 180, 181, 182, 183, 184, 185, 186, 187] (by decide +kernel) (by decide +kernel)
set_option maxRecDepth 20000 in
theorem gX3_goOn_X3_aimPlannedDoors : GoodIn wsX3_goOn (wsV RX3 156 RX3 yX3_aimPlannedDoors wsX3_aimPlannedDoors) := goodIn_app (goodIn_of _ (by decide +kernel)) ggX3_goOn_X3_aimPlannedDoors
set_option maxRecDepth 20000 in
theorem ggX3_goOn_X3_moveDoors : GoodIn wsX3_goOn wsX3_moveDoors := goodIn_r _ [54, 42, 43, 55, 4, 56, 3, 57, 58, 59, 60, 47, 61, 62, 50, 63, 64, 65, 66, 67, 68, 69, 70, 71, 72, 73, 27, 74, 29, 30, 75, 76, 77, 78, 34, 79, 36, 37, 80, 154, 155, 156, 157, 158, 159, 160, 161, 162, 163, 178, 179, 180, 181, 182, 183, 184, 185, 186, 187, 171, 172, 173, 174, 175, 176, 177] (by decide +kernel) (by decide +kernel)
set_option maxRecDepth 20000 in
theorem gX3_goOn_X3_moveDoors : GoodIn wsX3_goOn (wsV RX3 159 RX3 yX3_moveDoors wsX3_moveDoors) := goodIn_app (goodIn_of _ (by decide +kernel)) ggX3_goOn_X3_moveDoors
set_option maxRecDepth 20000 in
theorem ggX3_goOn_X3_giveSounds : GoodIn wsX3_goOn wsX3_giveSounds := goodIn_r _ [84, 4, 21, 3, 22, 23, 24, 25, 26, 27, 28, 29, 30, 85, 77, 78, 34, 79, 36, 37, 80, 86, 87, 88, 19, 89, 1, 2, 90, 91, 92, 8, 93, 11, 94, 154, 155, 156, 157, 158, 159, 160, 161, 162, 163, 171, 172, 173, 174, 175, 176, 177, 164, 165, 166, 167, 168, 169, 170] (by decide +kernel) (by decide +kernel)
set_option maxRecDepth 20000 in
theorem gX3_goOn_X3_giveSounds : GoodIn wsX3_goOn (wsV RX3 162 RX3 yX3_giveSounds wsX3_giveSounds) := goodIn_app (goodIn_of _ (by decide +kernel)) ggX3_goOn_X3_giveSounds
set_option maxRecDepth 20000 in
theorem ggX3_goOn_X4_dropEnded : GoodIn wsX3_goOn wsX4_dropEnded := goodIn_r _ [98, 29, 99, 25, 26, 27, 28, 30, 100, 101, 102, 34, 103, 36, 37, 80, 104, 105, 106, 107, 171, 172, 173, 174, 175, 176, 177] (by decide +kernel) (by decide +kernel)
set_option maxRecDepth 20000 in
theorem gX3_goOn_X4_dropEnded : GoodIn wsX3_goOn (wsV RX3 165 RX4 yX4_dropEnded wsX4_dropEnded) := goodIn_app (goodIn_of _ (by decide +kernel)) ggX3_goOn_X4_dropEnded
set_option maxRecDepth 20000 in
theorem ggX3_goOn_X5_absorbShare : GoodIn wsX3_goOn wsX5_absorbShare := goodIn_r _ [111, 11, 112, 113, 114, 115, 164, 165, 166, 167, 168, 169, 170] (by decide +kernel) (by decide +kernel)
set_option maxRecDepth 20000 in
theorem gX3_goOn_X5_absorbShare : GoodIn wsX3_goOn (wsV RX3 168 RX5 yX5_absorbShare wsX5_absorbShare) := goodIn_app (goodIn_of _ (by decide +kernel)) ggX3_goOn_X5_absorbShare
set_option maxRecDepth 20000 in
theorem ggX3_goOn_X3_sendThroughDoors : GoodIn wsX3_goOn wsX3_sendThroughDoors := goodIn_r _ [119, 42, 43, 120, 56, 121, 3, 122, 123, 124, 19, 125, 86, 87, 88, 89, 1, 2, 126, 127, 128, 8, 129, 130, 11, 131, 132, 133, 134, 135, 136, 47, 137, 138, 139, 140, 141, 142, 143, 144, 13, 14, 15, 154, 155, 156, 157, 158, 159, 160, 161, 162, 163, 178, 179, 180, 181, 182, 183, 184, 185, 186, 187, 164, 165, 166, 167, 168, 169, 170] (by decide +kernel) (by decide +kernel)
set_option maxRecDepth 20000 in
theorem gX3_goOn_X3_sendThroughDoors : GoodIn wsX3_goOn (wsV RX3 171 RX3 yX3_sendThroughDoors wsX3_sendThroughDoors) := goodIn_app (goodIn_of _ (by decide +kernel)) ggX3_goOn_X3_sendThroughDoors
set_option maxRecDepth 20000 in
theorem ggX3_goOn_X3_letArrive : GoodIn wsX3_goOn wsX3_letArrive := goodIn_r _ [148, 42, 43, 3, 56, 149, 121, 150, 151, 152, 47, 153, 139, 141, 142, 143, 144, 13, 14, 15, 86, 87, 88, 19, 89, 1, 2, 154, 155, 156, 157, 158, 159, 160, 161, 162, 163, 178, 179, 180, 181, 182, 183, 184, 185, 186, 187, 164, 165, 166, 167, 168, 169, 170] (by decide +kernel) (by decide +kernel)
set_option maxRecDepth 20000 in
theorem gX3_goOn_X3_letArrive : GoodIn wsX3_goOn (wsV RX3 174 RX3 yX3_letArrive wsX3_letArrive) := goodIn_app (goodIn_of _ (by decide +kernel)) ggX3_goOn_X3_letArrive
theorem dX3_goOn_0 : decode cX3_goOn 0 = .ok (.iconst 0, 1) := by decide +kernel
theorem dX3_goOn_1 : decode cX3_goOn 1 = .ok (.istore_n 1, 1) := by decide +kernel
theorem dX3_goOn_2 : decode cX3_goOn 2 = .ok (.iload_n 1, 1) := by decide +kernel
theorem dX3_goOn_3 : decode cX3_goOn 3 = .ok (.aload_n 0, 1) := by decide +kernel
theorem dX3_goOn_4 : decode cX3_goOn 4 = .ok (.getfield 53, 3) := by decide +kernel
theorem dX3_goOn_7 : decode cX3_goOn 7 = .ok (.if_icmp .ge 31, 3) := by decide +kernel
theorem dX3_goOn_10 : decode cX3_goOn 10 = .ok (.iload_n 1, 1) := by decide +kernel
theorem dX3_goOn_11 : decode cX3_goOn 11 = .ok (.aload_n 0, 1) := by decide +kernel
theorem dX3_goOn_12 : decode cX3_goOn 12 = .ok (.getfield 11, 3) := by decide +kernel
theorem dX3_goOn_15 : decode cX3_goOn 15 = .ok (.arraylength, 1) := by decide +kernel
theorem dX3_goOn_16 : decode cX3_goOn 16 = .ok (.if_icmp .ge 22, 3) := by decide +kernel
theorem dX3_goOn_19 : decode cX3_goOn 19 = .ok (.aload_n 0, 1) := by decide +kernel
theorem dX3_goOn_20 : decode cX3_goOn 20 = .ok (.getfield 11, 3) := by decide +kernel
theorem dX3_goOn_23 : decode cX3_goOn 23 = .ok (.iload_n 1, 1) := by decide +kernel
theorem dX3_goOn_24 : decode cX3_goOn 24 = .ok (.aaload, 1) := by decide +kernel
theorem dX3_goOn_25 : decode cX3_goOn 25 = .ok (.aload_n 0, 1) := by decide +kernel
theorem dX3_goOn_26 : decode cX3_goOn 26 = .ok (.getfield 60, 3) := by decide +kernel
theorem dX3_goOn_29 : decode cX3_goOn 29 = .ok (.invokevirtual 152, 3) := by decide +kernel
theorem dX3_goOn_32 : decode cX3_goOn 32 = .ok (.iinc 1 1, 3) := by decide +kernel
theorem dX3_goOn_35 : decode cX3_goOn 35 = .ok (.goto (-33), 3) := by decide +kernel
theorem dX3_goOn_38 : decode cX3_goOn 38 = .ok (.aload_n 0, 1) := by decide +kernel
theorem dX3_goOn_39 : decode cX3_goOn 39 = .ok (.invokevirtual 156, 3) := by decide +kernel
theorem dX3_goOn_42 : decode cX3_goOn 42 = .ok (.aload_n 0, 1) := by decide +kernel
theorem dX3_goOn_43 : decode cX3_goOn 43 = .ok (.invokevirtual 159, 3) := by decide +kernel
theorem dX3_goOn_46 : decode cX3_goOn 46 = .ok (.aload_n 0, 1) := by decide +kernel
theorem dX3_goOn_47 : decode cX3_goOn 47 = .ok (.invokevirtual 162, 3) := by decide +kernel
theorem dX3_goOn_50 : decode cX3_goOn 50 = .ok (.aload_n 0, 1) := by decide +kernel
theorem dX3_goOn_51 : decode cX3_goOn 51 = .ok (.getfield 26, 3) := by decide +kernel
theorem dX3_goOn_54 : decode cX3_goOn 54 = .ok (.aload_n 0, 1) := by decide +kernel
theorem dX3_goOn_55 : decode cX3_goOn 55 = .ok (.getfield 60, 3) := by decide +kernel
theorem dX3_goOn_58 : decode cX3_goOn 58 = .ok (.invokevirtual 165, 3) := by decide +kernel
theorem dX3_goOn_61 : decode cX3_goOn 61 = .ok (.iconst 0, 1) := by decide +kernel
theorem dX3_goOn_62 : decode cX3_goOn 62 = .ok (.istore_n 1, 1) := by decide +kernel
theorem dX3_goOn_63 : decode cX3_goOn 63 = .ok (.iload_n 1, 1) := by decide +kernel
theorem dX3_goOn_64 : decode cX3_goOn 64 = .ok (.aload_n 0, 1) := by decide +kernel
theorem dX3_goOn_65 : decode cX3_goOn 65 = .ok (.getfield 53, 3) := by decide +kernel
theorem dX3_goOn_68 : decode cX3_goOn 68 = .ok (.if_icmp .ge 27, 3) := by decide +kernel
theorem dX3_goOn_71 : decode cX3_goOn 71 = .ok (.iload_n 1, 1) := by decide +kernel
theorem dX3_goOn_72 : decode cX3_goOn 72 = .ok (.aload_n 0, 1) := by decide +kernel
theorem dX3_goOn_73 : decode cX3_goOn 73 = .ok (.getfield 11, 3) := by decide +kernel
theorem dX3_goOn_76 : decode cX3_goOn 76 = .ok (.arraylength, 1) := by decide +kernel
theorem dX3_goOn_77 : decode cX3_goOn 77 = .ok (.if_icmp .ge 18, 3) := by decide +kernel
theorem dX3_goOn_80 : decode cX3_goOn 80 = .ok (.aload_n 0, 1) := by decide +kernel
theorem dX3_goOn_81 : decode cX3_goOn 81 = .ok (.getfield 11, 3) := by decide +kernel
theorem dX3_goOn_84 : decode cX3_goOn 84 = .ok (.iload_n 1, 1) := by decide +kernel
theorem dX3_goOn_85 : decode cX3_goOn 85 = .ok (.aaload, 1) := by decide +kernel
theorem dX3_goOn_86 : decode cX3_goOn 86 = .ok (.invokevirtual 168, 3) := by decide +kernel
theorem dX3_goOn_89 : decode cX3_goOn 89 = .ok (.iinc 1 1, 3) := by decide +kernel
theorem dX3_goOn_92 : decode cX3_goOn 92 = .ok (.goto (-29), 3) := by decide +kernel
theorem dX3_goOn_95 : decode cX3_goOn 95 = .ok (.aload_n 0, 1) := by decide +kernel
theorem dX3_goOn_96 : decode cX3_goOn 96 = .ok (.invokevirtual 171, 3) := by decide +kernel
theorem dX3_goOn_99 : decode cX3_goOn 99 = .ok (.aload_n 0, 1) := by decide +kernel
theorem dX3_goOn_100 : decode cX3_goOn 100 = .ok (.invokevirtual 174, 3) := by decide +kernel
theorem dX3_goOn_103 : decode cX3_goOn 103 = .ok (.aload_n 0, 1) := by decide +kernel
theorem dX3_goOn_104 : decode cX3_goOn 104 = .ok (.dup, 1) := by decide +kernel
theorem dX3_goOn_105 : decode cX3_goOn 105 = .ok (.getfield 60, 3) := by decide +kernel
theorem dX3_goOn_108 : decode cX3_goOn 108 = .ok (.iconst 1, 1) := by decide +kernel
theorem dX3_goOn_109 : decode cX3_goOn 109 = .ok (.iadd, 1) := by decide +kernel
theorem dX3_goOn_110 : decode cX3_goOn 110 = .ok (.putfield 60, 3) := by decide +kernel
theorem dX3_goOn_113 : decode cX3_goOn 113 = .ok (.return_, 1) := by decide +kernel
set_option maxRecDepth 20000 in
theorem ggX3_aimPlannedDoors_X4_entryAt : GoodIn wsX3_aimPlannedDoors wsX4_entryAt := goodIn_r _ [10, 11, 12, 44, 45] (by decide +kernel) (by decide +kernel)
set_option maxRecDepth 20000 in
theorem gX3_aimPlannedDoors_X4_entryAt : GoodIn wsX3_aimPlannedDoors (wsV RX3 180 RX4 yX4_entryAt wsX4_entryAt) := goodIn_app (goodIn_of _ (by decide +kernel)) ggX3_aimPlannedDoors_X4_entryAt
set_option maxRecDepth 20000 in
theorem ggX3_aimPlannedDoors_X1_isTargetFor : GoodIn wsX3_aimPlannedDoors wsX1_isTargetFor := goodIn_r _ [17, 18, 19, 46, 47, 48, 49, 50] (by decide +kernel) (by decide +kernel)
set_option maxRecDepth 20000 in
theorem gX3_aimPlannedDoors_X1_isTargetFor : GoodIn wsX3_aimPlannedDoors (wsV RX3 184 RX1 yX1_isTargetFor wsX1_isTargetFor) := goodIn_app (goodIn_of _ (by decide +kernel)) ggX3_aimPlannedDoors_X1_isTargetFor
set_option maxRecDepth 20000 in
theorem ggX3_aimPlannedDoors_X3_doorAt : GoodIn wsX3_aimPlannedDoors wsX3_doorAt := goodIn_r _ [24, 25, 26, 34, 35, 36, 37, 38, 39, 40, 41, 42, 43] (by decide +kernel) (by decide +kernel)
set_option maxRecDepth 20000 in
theorem gX3_aimPlannedDoors_X3_doorAt : GoodIn wsX3_aimPlannedDoors (wsV RX3 115 RX3 yX3_doorAt wsX3_doorAt) := goodIn_app (goodIn_of _ (by decide +kernel)) ggX3_aimPlannedDoors_X3_doorAt
set_option maxRecDepth 20000 in
theorem ggX3_aimPlannedDoors_X0_aimAt : GoodIn wsX3_aimPlannedDoors wsX0_aimAt := goodIn_r _ [31, 32, 33, 51, 52, 53, 54, 55, 56, 57, 58, 59, 60] (by decide +kernel) (by decide +kernel)
set_option maxRecDepth 20000 in
theorem gX3_aimPlannedDoors_X0_aimAt : GoodIn wsX3_aimPlannedDoors (wsV RX3 193 RX0 yX0_aimAt wsX0_aimAt) := goodIn_app (goodIn_of _ (by decide +kernel)) ggX3_aimPlannedDoors_X0_aimAt
theorem dX3_aimPlannedDoors_0 : decode cX3_aimPlannedDoors 0 = .ok (.iconst 0, 1) := by decide +kernel
theorem dX3_aimPlannedDoors_1 : decode cX3_aimPlannedDoors 1 = .ok (.istore_n 1, 1) := by decide +kernel
theorem dX3_aimPlannedDoors_2 : decode cX3_aimPlannedDoors 2 = .ok (.iload_n 1, 1) := by decide +kernel
theorem dX3_aimPlannedDoors_3 : decode cX3_aimPlannedDoors 3 = .ok (.aload_n 0, 1) := by decide +kernel
theorem dX3_aimPlannedDoors_4 : decode cX3_aimPlannedDoors 4 = .ok (.getfield 26, 3) := by decide +kernel
theorem dX3_aimPlannedDoors_7 : decode cX3_aimPlannedDoors 7 = .ok (.getfield 177, 3) := by decide +kernel
theorem dX3_aimPlannedDoors_10 : decode cX3_aimPlannedDoors 10 = .ok (.if_icmp .ge 54, 3) := by decide +kernel
theorem dX3_aimPlannedDoors_13 : decode cX3_aimPlannedDoors 13 = .ok (.aload_n 0, 1) := by decide +kernel
theorem dX3_aimPlannedDoors_14 : decode cX3_aimPlannedDoors 14 = .ok (.getfield 26, 3) := by decide +kernel
theorem dX3_aimPlannedDoors_17 : decode cX3_aimPlannedDoors 17 = .ok (.iload_n 1, 1) := by decide +kernel
theorem dX3_aimPlannedDoors_18 : decode cX3_aimPlannedDoors 18 = .ok (.invokevirtual 180, 3) := by decide +kernel
theorem dX3_aimPlannedDoors_21 : decode cX3_aimPlannedDoors 21 = .ok (.astore_n 2, 1) := by decide +kernel
theorem dX3_aimPlannedDoors_22 : decode cX3_aimPlannedDoors 22 = .ok (.aload_n 2, 1) := by decide +kernel
theorem dX3_aimPlannedDoors_23 : decode cX3_aimPlannedDoors 23 = .ok (.ifnull 35, 3) := by decide +kernel
theorem dX3_aimPlannedDoors_26 : decode cX3_aimPlannedDoors 26 = .ok (.aload_n 2, 1) := by decide +kernel
theorem dX3_aimPlannedDoors_27 : decode cX3_aimPlannedDoors 27 = .ok (.aload_n 0, 1) := by decide +kernel
theorem dX3_aimPlannedDoors_28 : decode cX3_aimPlannedDoors 28 = .ok (.getfield 60, 3) := by decide +kernel
theorem dX3_aimPlannedDoors_31 : decode cX3_aimPlannedDoors 31 = .ok (.invokevirtual 184, 3) := by decide +kernel
theorem dX3_aimPlannedDoors_34 : decode cX3_aimPlannedDoors 34 = .ok (.ifCond .eq 24, 3) := by decide +kernel
theorem dX3_aimPlannedDoors_37 : decode cX3_aimPlannedDoors 37 = .ok (.aload_n 0, 1) := by decide +kernel
theorem dX3_aimPlannedDoors_38 : decode cX3_aimPlannedDoors 38 = .ok (.aload_n 2, 1) := by decide +kernel
theorem dX3_aimPlannedDoors_39 : decode cX3_aimPlannedDoors 39 = .ok (.getfield 187, 3) := by decide +kernel
theorem dX3_aimPlannedDoors_42 : decode cX3_aimPlannedDoors 42 = .ok (.invokevirtual 115, 3) := by decide +kernel
theorem dX3_aimPlannedDoors_45 : decode cX3_aimPlannedDoors 45 = .ok (.astore_n 3, 1) := by decide +kernel
theorem dX3_aimPlannedDoors_46 : decode cX3_aimPlannedDoors 46 = .ok (.aload_n 3, 1) := by decide +kernel
theorem dX3_aimPlannedDoors_47 : decode cX3_aimPlannedDoors 47 = .ok (.ifnull 11, 3) := by decide +kernel
theorem dX3_aimPlannedDoors_50 : decode cX3_aimPlannedDoors 50 = .ok (.aload_n 3, 1) := by decide +kernel
theorem dX3_aimPlannedDoors_51 : decode cX3_aimPlannedDoors 51 = .ok (.aload_n 2, 1) := by decide +kernel
theorem dX3_aimPlannedDoors_52 : decode cX3_aimPlannedDoors 52 = .ok (.getfield 190, 3) := by decide +kernel
theorem dX3_aimPlannedDoors_55 : decode cX3_aimPlannedDoors 55 = .ok (.invokevirtual 193, 3) := by decide +kernel
theorem dX3_aimPlannedDoors_58 : decode cX3_aimPlannedDoors 58 = .ok (.iinc 1 1, 3) := by decide +kernel
theorem dX3_aimPlannedDoors_61 : decode cX3_aimPlannedDoors 61 = .ok (.goto (-59), 3) := by decide +kernel
theorem dX3_aimPlannedDoors_64 : decode cX3_aimPlannedDoors 64 = .ok (.return_, 1) := by decide +kernel
set_option maxRecDepth 20000 in
theorem ggX3_moveDoors_X0_move : GoodIn wsX3_moveDoors wsX0_move := goodIn_r _ [12, 13, 14, 15, 16, 17, 18, 19, 20, 21, 22, 49, 50, 51, 52, 53, 54, 55, 56, 57, 58] (by decide +kernel) (by decide +kernel)
set_option maxRecDepth 20000 in
theorem gX3_moveDoors_X0_move : GoodIn wsX3_moveDoors (wsV RX3 196 RX0 yX0_move wsX0_move) := goodIn_app (goodIn_of _ (by decide +kernel)) ggX3_moveDoors_X0_move
set_option maxRecDepth 20000 in
theorem ggX3_moveDoors_X4_soundsHeard : GoodIn wsX3_moveDoors wsX4_soundsHeard := goodIn_r _ [27, 28, 29, 30, 31, 32, 33, 34, 35, 36, 37, 38, 59, 60, 61, 62, 63, 64, 65] (by decide +kernel) (by decide +kernel)
set_option maxRecDepth 20000 in
theorem gX3_moveDoors_X4_soundsHeard : GoodIn wsX3_moveDoors (wsV RX3 199 RX4 yX4_soundsHeard wsX4_soundsHeard) := goodIn_app (goodIn_of _ (by decide +kernel)) ggX3_moveDoors_X4_soundsHeard
theorem dX3_moveDoors_0 : decode cX3_moveDoors 0 = .ok (.iconst 0, 1) := by decide +kernel
theorem dX3_moveDoors_1 : decode cX3_moveDoors 1 = .ok (.istore_n 1, 1) := by decide +kernel
theorem dX3_moveDoors_2 : decode cX3_moveDoors 2 = .ok (.iload_n 1, 1) := by decide +kernel
theorem dX3_moveDoors_3 : decode cX3_moveDoors 3 = .ok (.aload_n 0, 1) := by decide +kernel
theorem dX3_moveDoors_4 : decode cX3_moveDoors 4 = .ok (.getfield 57, 3) := by decide +kernel
theorem dX3_moveDoors_7 : decode cX3_moveDoors 7 = .ok (.if_icmp .ge 90, 3) := by decide +kernel
theorem dX3_moveDoors_10 : decode cX3_moveDoors 10 = .ok (.iload_n 1, 1) := by decide +kernel
theorem dX3_moveDoors_11 : decode cX3_moveDoors 11 = .ok (.aload_n 0, 1) := by decide +kernel
theorem dX3_moveDoors_12 : decode cX3_moveDoors 12 = .ok (.getfield 19, 3) := by decide +kernel
theorem dX3_moveDoors_15 : decode cX3_moveDoors 15 = .ok (.arraylength, 1) := by decide +kernel
theorem dX3_moveDoors_16 : decode cX3_moveDoors 16 = .ok (.if_icmp .ge 81, 3) := by decide +kernel
theorem dX3_moveDoors_19 : decode cX3_moveDoors 19 = .ok (.aload_n 0, 1) := by decide +kernel
theorem dX3_moveDoors_20 : decode cX3_moveDoors 20 = .ok (.getfield 19, 3) := by decide +kernel
theorem dX3_moveDoors_23 : decode cX3_moveDoors 23 = .ok (.iload_n 1, 1) := by decide +kernel
theorem dX3_moveDoors_24 : decode cX3_moveDoors 24 = .ok (.aaload, 1) := by decide +kernel
theorem dX3_moveDoors_25 : decode cX3_moveDoors 25 = .ok (.astore_n 2, 1) := by decide +kernel
theorem dX3_moveDoors_26 : decode cX3_moveDoors 26 = .ok (.aload_n 2, 1) := by decide +kernel
theorem dX3_moveDoors_27 : decode cX3_moveDoors 27 = .ok (.getfield 112, 3) := by decide +kernel
theorem dX3_moveDoors_30 : decode cX3_moveDoors 30 = .ok (.istore_n 3, 1) := by decide +kernel
theorem dX3_moveDoors_31 : decode cX3_moveDoors 31 = .ok (.aload_n 2, 1) := by decide +kernel
theorem dX3_moveDoors_32 : decode cX3_moveDoors 32 = .ok (.invokevirtual 196, 3) := by decide +kernel
theorem dX3_moveDoors_35 : decode cX3_moveDoors 35 = .ok (.aload_n 2, 1) := by decide +kernel
theorem dX3_moveDoors_36 : decode cX3_moveDoors 36 = .ok (.getfield 112, 3) := by decide +kernel
theorem dX3_moveDoors_39 : decode cX3_moveDoors 39 = .ok (.iload_n 3, 1) := by decide +kernel
theorem dX3_moveDoors_40 : decode cX3_moveDoors 40 = .ok (.if_icmp .le 51, 3) := by decide +kernel
theorem dX3_moveDoors_43 : decode cX3_moveDoors 43 = .ok (.aload_n 0, 1) := by decide +kernel
theorem dX3_moveDoors_44 : decode cX3_moveDoors 44 = .ok (.getfield 26, 3) := by decide +kernel
theorem dX3_moveDoors_47 : decode cX3_moveDoors 47 = .ok (.aload_n 2, 1) := by decide +kernel
theorem dX3_moveDoors_48 : decode cX3_moveDoors 48 = .ok (.getfield 100, 3) := by decide +kernel
theorem dX3_moveDoors_51 : decode cX3_moveDoors 51 = .ok (.iconst 0, 1) := by decide +kernel
theorem dX3_moveDoors_52 : decode cX3_moveDoors 52 = .ok (.iaload, 1) := by decide +kernel
theorem dX3_moveDoors_53 : decode cX3_moveDoors 53 = .ok (.aload_n 0, 1) := by decide +kernel
theorem dX3_moveDoors_54 : decode cX3_moveDoors 54 = .ok (.getfield 60, 3) := by decide +kernel
theorem dX3_moveDoors_57 : decode cX3_moveDoors 57 = .ok (.invokevirtual 199, 3) := by decide +kernel
theorem dX3_moveDoors_60 : decode cX3_moveDoors 60 = .ok (.aload_n 0, 1) := by decide +kernel
theorem dX3_moveDoors_61 : decode cX3_moveDoors 61 = .ok (.getfield 26, 3) := by decide +kernel
theorem dX3_moveDoors_64 : decode cX3_moveDoors 64 = .ok (.aload_n 2, 1) := by decide +kernel
theorem dX3_moveDoors_65 : decode cX3_moveDoors 65 = .ok (.getfield 100, 3) := by decide +kernel
theorem dX3_moveDoors_68 : decode cX3_moveDoors 68 = .ok (.iconst 1, 1) := by decide +kernel
theorem dX3_moveDoors_69 : decode cX3_moveDoors 69 = .ok (.iaload, 1) := by decide +kernel
theorem dX3_moveDoors_70 : decode cX3_moveDoors 70 = .ok (.aload_n 0, 1) := by decide +kernel
theorem dX3_moveDoors_71 : decode cX3_moveDoors 71 = .ok (.getfield 60, 3) := by decide +kernel
theorem dX3_moveDoors_74 : decode cX3_moveDoors 74 = .ok (.invokevirtual 199, 3) := by decide +kernel
theorem dX3_moveDoors_77 : decode cX3_moveDoors 77 = .ok (.iadd, 1) := by decide +kernel
theorem dX3_moveDoors_78 : decode cX3_moveDoors 78 = .ok (.ifCond .le 13, 3) := by decide +kernel
theorem dX3_moveDoors_81 : decode cX3_moveDoors 81 = .ok (.aload_n 0, 1) := by decide +kernel
theorem dX3_moveDoors_82 : decode cX3_moveDoors 82 = .ok (.dup, 1) := by decide +kernel
theorem dX3_moveDoors_83 : decode cX3_moveDoors 83 = .ok (.getfield 69, 3) := by decide +kernel
theorem dX3_moveDoors_86 : decode cX3_moveDoors 86 = .ok (.iconst 1, 1) := by decide +kernel
theorem dX3_moveDoors_87 : decode cX3_moveDoors 87 = .ok (.iadd, 1) := by decide +kernel
theorem dX3_moveDoors_88 : decode cX3_moveDoors 88 = .ok (.putfield 69, 3) := by decide +kernel
theorem dX3_moveDoors_91 : decode cX3_moveDoors 91 = .ok (.iinc 1 1, 3) := by decide +kernel
theorem dX3_moveDoors_94 : decode cX3_moveDoors 94 = .ok (.goto (-92), 3) := by decide +kernel
theorem dX3_moveDoors_97 : decode cX3_moveDoors 97 = .ok (.return_, 1) := by decide +kernel
set_option maxRecDepth 20000 in
theorem ggX3_giveSounds_X4_entryAt : GoodIn wsX3_giveSounds wsX4_entryAt := goodIn_r _ [10, 11, 12, 45, 46] (by decide +kernel) (by decide +kernel)
set_option maxRecDepth 20000 in
theorem gX3_giveSounds_X4_entryAt : GoodIn wsX3_giveSounds (wsV RX3 180 RX4 yX4_entryAt wsX4_entryAt) := goodIn_app (goodIn_of _ (by decide +kernel)) ggX3_giveSounds_X4_entryAt
set_option maxRecDepth 20000 in
theorem ggX3_giveSounds_X1_isHeardIn : GoodIn wsX3_giveSounds wsX1_isHeardIn := goodIn_r _ [17, 18, 19, 20, 47, 48, 49, 50, 51] (by decide +kernel) (by decide +kernel)
set_option maxRecDepth 20000 in
theorem gX3_giveSounds_X1_isHeardIn : GoodIn wsX3_giveSounds (wsV RX3 203 RX1 yX1_isHeardIn wsX1_isHeardIn) := goodIn_app (goodIn_of _ (by decide +kernel)) ggX3_giveSounds_X1_isHeardIn
set_option maxRecDepth 20000 in
theorem ggX3_giveSounds_X3_roomAt : GoodIn wsX3_giveSounds wsX3_roomAt := goodIn_r _ [25, 26, 27, 35, 36, 37, 38, 39, 40, 41, 42, 43, 44] (by decide +kernel) (by decide +kernel)
set_option maxRecDepth 20000 in
theorem gX3_giveSounds_X3_roomAt : GoodIn wsX3_giveSounds (wsV RX3 79 RX3 yX3_roomAt wsX3_roomAt) := goodIn_app (goodIn_of _ (by decide +kernel)) ggX3_giveSounds_X3_roomAt
set_option maxRecDepth 20000 in
theorem ggX3_giveSounds_X5_hear : GoodIn wsX3_giveSounds wsX5_hear := goodIn_r _ [32, 33, 34, 52, 53, 54, 55, 56, 57, 58] (by decide +kernel) (by decide +kernel)
set_option maxRecDepth 20000 in
theorem gX3_giveSounds_X5_hear : GoodIn wsX3_giveSounds (wsV RX3 206 RX5 yX5_hear wsX5_hear) := goodIn_app (goodIn_of _ (by decide +kernel)) ggX3_giveSounds_X5_hear
theorem dX3_giveSounds_0 : decode cX3_giveSounds 0 = .ok (.iconst 0, 1) := by decide +kernel
theorem dX3_giveSounds_1 : decode cX3_giveSounds 1 = .ok (.istore_n 1, 1) := by decide +kernel
theorem dX3_giveSounds_2 : decode cX3_giveSounds 2 = .ok (.iload_n 1, 1) := by decide +kernel
theorem dX3_giveSounds_3 : decode cX3_giveSounds 3 = .ok (.aload_n 0, 1) := by decide +kernel
theorem dX3_giveSounds_4 : decode cX3_giveSounds 4 = .ok (.getfield 26, 3) := by decide +kernel
theorem dX3_giveSounds_7 : decode cX3_giveSounds 7 = .ok (.getfield 177, 3) := by decide +kernel
theorem dX3_giveSounds_10 : decode cX3_giveSounds 10 = .ok (.if_icmp .ge 54, 3) := by decide +kernel
theorem dX3_giveSounds_13 : decode cX3_giveSounds 13 = .ok (.aload_n 0, 1) := by decide +kernel
theorem dX3_giveSounds_14 : decode cX3_giveSounds 14 = .ok (.getfield 26, 3) := by decide +kernel
theorem dX3_giveSounds_17 : decode cX3_giveSounds 17 = .ok (.iload_n 1, 1) := by decide +kernel
theorem dX3_giveSounds_18 : decode cX3_giveSounds 18 = .ok (.invokevirtual 180, 3) := by decide +kernel
theorem dX3_giveSounds_21 : decode cX3_giveSounds 21 = .ok (.astore_n 2, 1) := by decide +kernel
theorem dX3_giveSounds_22 : decode cX3_giveSounds 22 = .ok (.aload_n 2, 1) := by decide +kernel
theorem dX3_giveSounds_23 : decode cX3_giveSounds 23 = .ok (.ifnull 35, 3) := by decide +kernel
theorem dX3_giveSounds_26 : decode cX3_giveSounds 26 = .ok (.aload_n 2, 1) := by decide +kernel
theorem dX3_giveSounds_27 : decode cX3_giveSounds 27 = .ok (.aload_n 0, 1) := by decide +kernel
theorem dX3_giveSounds_28 : decode cX3_giveSounds 28 = .ok (.getfield 60, 3) := by decide +kernel
theorem dX3_giveSounds_31 : decode cX3_giveSounds 31 = .ok (.invokevirtual 203, 3) := by decide +kernel
theorem dX3_giveSounds_34 : decode cX3_giveSounds 34 = .ok (.ifCond .eq 24, 3) := by decide +kernel
theorem dX3_giveSounds_37 : decode cX3_giveSounds 37 = .ok (.aload_n 0, 1) := by decide +kernel
theorem dX3_giveSounds_38 : decode cX3_giveSounds 38 = .ok (.aload_n 2, 1) := by decide +kernel
theorem dX3_giveSounds_39 : decode cX3_giveSounds 39 = .ok (.getfield 187, 3) := by decide +kernel
theorem dX3_giveSounds_42 : decode cX3_giveSounds 42 = .ok (.invokevirtual 79, 3) := by decide +kernel
theorem dX3_giveSounds_45 : decode cX3_giveSounds 45 = .ok (.astore_n 3, 1) := by decide +kernel
theorem dX3_giveSounds_46 : decode cX3_giveSounds 46 = .ok (.aload_n 3, 1) := by decide +kernel
theorem dX3_giveSounds_47 : decode cX3_giveSounds 47 = .ok (.ifnull 11, 3) := by decide +kernel
theorem dX3_giveSounds_50 : decode cX3_giveSounds 50 = .ok (.aload_n 3, 1) := by decide +kernel
theorem dX3_giveSounds_51 : decode cX3_giveSounds 51 = .ok (.aload_n 2, 1) := by decide +kernel
theorem dX3_giveSounds_52 : decode cX3_giveSounds 52 = .ok (.getfield 190, 3) := by decide +kernel
theorem dX3_giveSounds_55 : decode cX3_giveSounds 55 = .ok (.invokevirtual 206, 3) := by decide +kernel
theorem dX3_giveSounds_58 : decode cX3_giveSounds 58 = .ok (.iinc 1 1, 3) := by decide +kernel
theorem dX3_giveSounds_61 : decode cX3_giveSounds 61 = .ok (.goto (-59), 3) := by decide +kernel
theorem dX3_giveSounds_64 : decode cX3_giveSounds 64 = .ok (.return_, 1) := by decide +kernel
set_option maxRecDepth 20000 in
theorem ggX3_wouldGo_X3_roomAt : GoodIn wsX3_wouldGo wsX3_roomAt := goodIn_r _ [6, 7, 8, 29, 30, 31, 32, 33, 34, 35, 36, 37, 38] (by decide +kernel) (by decide +kernel)
set_option maxRecDepth 20000 in
theorem gX3_wouldGo_X3_roomAt : GoodIn wsX3_wouldGo (wsV RX3 79 RX3 yX3_roomAt wsX3_roomAt) := goodIn_app (goodIn_of _ (by decide +kernel)) ggX3_wouldGo_X3_roomAt
set_option maxRecDepth 20000 in
theorem ggX3_wouldGo_X5_shareThrough : GoodIn wsX3_wouldGo wsX5_shareThrough := goodIn_r _ [13, 14, 15, 16, 17, 18, 39, 40, 41, 42, 43, 44, 45, 19, 20, 21, 22, 23, 24, 25, 26, 27, 28] (by decide +kernel) (by decide +kernel)
set_option maxRecDepth 20000 in
theorem gX3_wouldGo_X5_shareThrough : GoodIn wsX3_wouldGo (wsV RX3 209 RX5 yX5_shareThrough wsX5_shareThrough) := goodIn_app (goodIn_of _ (by decide +kernel)) ggX3_wouldGo_X5_shareThrough
theorem dX3_wouldGo_0 : decode cX3_wouldGo 0 = .ok (.aload_n 0, 1) := by decide +kernel
theorem dX3_wouldGo_1 : decode cX3_wouldGo 1 = .ok (.iload_n 2, 1) := by decide +kernel
theorem dX3_wouldGo_2 : decode cX3_wouldGo 2 = .ok (.ifCond .ne 12, 3) := by decide +kernel
theorem dX3_wouldGo_5 : decode cX3_wouldGo 5 = .ok (.aload_n 1, 1) := by decide +kernel
theorem dX3_wouldGo_6 : decode cX3_wouldGo 6 = .ok (.getfield 100, 3) := by decide +kernel
theorem dX3_wouldGo_9 : decode cX3_wouldGo 9 = .ok (.iconst 0, 1) := by decide +kernel
theorem dX3_wouldGo_10 : decode cX3_wouldGo 10 = .ok (.iaload, 1) := by decide +kernel
theorem dX3_wouldGo_11 : decode cX3_wouldGo 11 = .ok (.goto 9, 3) := by decide +kernel
theorem dX3_wouldGo_14 : decode cX3_wouldGo 14 = .ok (.aload_n 1, 1) := by decide +kernel
theorem dX3_wouldGo_15 : decode cX3_wouldGo 15 = .ok (.getfield 100, 3) := by decide +kernel
theorem dX3_wouldGo_18 : decode cX3_wouldGo 18 = .ok (.iconst 1, 1) := by decide +kernel
theorem dX3_wouldGo_19 : decode cX3_wouldGo 19 = .ok (.iaload, 1) := by decide +kernel
theorem dX3_wouldGo_20 : decode cX3_wouldGo 20 = .ok (.invokevirtual 79, 3) := by decide +kernel
theorem dX3_wouldGo_23 : decode cX3_wouldGo 23 = .ok (.astore_n 3, 1) := by decide +kernel
theorem dX3_wouldGo_24 : decode cX3_wouldGo 24 = .ok (.aload_n 3, 1) := by decide +kernel
theorem dX3_wouldGo_25 : decode cX3_wouldGo 25 = .ok (.ifnonnull 7, 3) := by decide +kernel
theorem dX3_wouldGo_28 : decode cX3_wouldGo 28 = .ok (.iconst 0, 1) := by decide +kernel
theorem dX3_wouldGo_29 : decode cX3_wouldGo 29 = .ok (.goto 8, 3) := by decide +kernel
theorem dX3_wouldGo_32 : decode cX3_wouldGo 32 = .ok (.aload_n 3, 1) := by decide +kernel
theorem dX3_wouldGo_33 : decode cX3_wouldGo 33 = .ok (.aload_n 1, 1) := by decide +kernel
theorem dX3_wouldGo_34 : decode cX3_wouldGo 34 = .ok (.invokevirtual 209, 3) := by decide +kernel
theorem dX3_wouldGo_37 : decode cX3_wouldGo 37 = .ok (.ireturn, 1) := by decide +kernel
set_option maxRecDepth 20000 in
theorem ggX3_sendThroughDoors_X3_wouldGo : GoodIn wsX3_sendThroughDoors wsX3_wouldGo := goodIn_r _ [11, 4, 12, 13, 14, 10, 15, 16, 17, 18, 19, 20, 21, 22, 23, 24, 25, 26, 27, 53, 54, 55, 56, 57, 58, 59, 60, 61, 62, 43, 44, 45, 46, 47, 48, 49, 50, 51, 52, 63, 64, 65, 66, 67, 68, 69] (by decide +kernel) (by decide +kernel)
set_option maxRecDepth 20000 in
theorem gX3_sendThroughDoors_X3_wouldGo : GoodIn wsX3_sendThroughDoors (wsV RX3 216 RX3 yX3_wouldGo wsX3_wouldGo) := goodIn_app (goodIn_of _ (by decide +kernel)) ggX3_sendThroughDoors_X3_wouldGo
set_option maxRecDepth 20000 in
theorem ggX3_sendThroughDoors_X3_roomAt : GoodIn wsX3_sendThroughDoors wsX3_roomAt := goodIn_r _ [15, 16, 17, 43, 44, 45, 46, 47, 48, 49, 50, 51, 52] (by decide +kernel) (by decide +kernel)
set_option maxRecDepth 20000 in
theorem gX3_sendThroughDoors_X3_roomAt : GoodIn wsX3_sendThroughDoors (wsV RX3 79 RX3 yX3_roomAt wsX3_roomAt) := goodIn_app (goodIn_of _ (by decide +kernel)) ggX3_sendThroughDoors_X3_roomAt
set_option maxRecDepth 20000 in
theorem ggX3_sendThroughDoors_X0_send : GoodIn wsX3_sendThroughDoors wsX0_send := goodIn_r _ [32, 33, 34, 35, 36, 37, 31, 38, 39, 40, 41, 42, 53, 54, 55, 56, 57, 58, 59, 60, 61, 62] (by decide +kernel) (by decide +kernel)
set_option maxRecDepth 20000 in
theorem gX3_sendThroughDoors_X0_send : GoodIn wsX3_sendThroughDoors (wsV RX3 220 RX0 yX0_send wsX0_send) := goodIn_app (goodIn_of _ (by decide +kernel)) ggX3_sendThroughDoors_X0_send
theorem dX3_sendThroughDoors_0 : decode cX3_sendThroughDoors 0 = .ok (.iconst 0, 1) := by decide +kernel
theorem dX3_sendThroughDoors_1 : decode cX3_sendThroughDoors 1 = .ok (.istore_n 1, 1) := by decide +kernel
theorem dX3_sendThroughDoors_2 : decode cX3_sendThroughDoors 2 = .ok (.iload_n 1, 1) := by decide +kernel
theorem dX3_sendThroughDoors_3 : decode cX3_sendThroughDoors 3 = .ok (.aload_n 0, 1) := by decide +kernel
theorem dX3_sendThroughDoors_4 : decode cX3_sendThroughDoors 4 = .ok (.getfield 57, 3) := by decide +kernel
theorem dX3_sendThroughDoors_7 : decode cX3_sendThroughDoors 7 = .ok (.if_icmp .ge 53, 3) := by decide +kernel
theorem dX3_sendThroughDoors_10 : decode cX3_sendThroughDoors 10 = .ok (.iload_n 1, 1) := by decide +kernel
theorem dX3_sendThroughDoors_11 : decode cX3_sendThroughDoors 11 = .ok (.aload_n 0, 1) := by decide +kernel
theorem dX3_sendThroughDoors_12 : decode cX3_sendThroughDoors 12 = .ok (.getfield 19, 3) := by decide +kernel
theorem dX3_sendThroughDoors_15 : decode cX3_sendThroughDoors 15 = .ok (.arraylength, 1) := by decide +kernel
theorem dX3_sendThroughDoors_16 : decode cX3_sendThroughDoors 16 = .ok (.if_icmp .ge 44, 3) := by decide +kernel
theorem dX3_sendThroughDoors_19 : decode cX3_sendThroughDoors 19 = .ok (.iconst 0, 1) := by decide +kernel
theorem dX3_sendThroughDoors_20 : decode cX3_sendThroughDoors 20 = .ok (.istore_n 2, 1) := by decide +kernel
theorem dX3_sendThroughDoors_21 : decode cX3_sendThroughDoors 21 = .ok (.iload_n 2, 1) := by decide +kernel
theorem dX3_sendThroughDoors_22 : decode cX3_sendThroughDoors 22 = .ok (.iconst 2, 1) := by decide +kernel
theorem dX3_sendThroughDoors_23 : decode cX3_sendThroughDoors 23 = .ok (.if_icmp .ge 31, 3) := by decide +kernel
theorem dX3_sendThroughDoors_26 : decode cX3_sendThroughDoors 26 = .ok (.aload_n 0, 1) := by decide +kernel
theorem dX3_sendThroughDoors_27 : decode cX3_sendThroughDoors 27 = .ok (.getfield 19, 3) := by decide +kernel
theorem dX3_sendThroughDoors_30 : decode cX3_sendThroughDoors 30 = .ok (.iload_n 1, 1) := by decide +kernel
theorem dX3_sendThroughDoors_31 : decode cX3_sendThroughDoors 31 = .ok (.aaload, 1) := by decide +kernel
theorem dX3_sendThroughDoors_32 : decode cX3_sendThroughDoors 32 = .ok (.getfield 213, 3) := by decide +kernel
theorem dX3_sendThroughDoors_35 : decode cX3_sendThroughDoors 35 = .ok (.iload_n 2, 1) := by decide +kernel
theorem dX3_sendThroughDoors_36 : decode cX3_sendThroughDoors 36 = .ok (.aload_n 0, 1) := by decide +kernel
theorem dX3_sendThroughDoors_37 : decode cX3_sendThroughDoors 37 = .ok (.aload_n 0, 1) := by decide +kernel
theorem dX3_sendThroughDoors_38 : decode cX3_sendThroughDoors 38 = .ok (.getfield 19, 3) := by decide +kernel
theorem dX3_sendThroughDoors_41 : decode cX3_sendThroughDoors 41 = .ok (.iload_n 1, 1) := by decide +kernel
theorem dX3_sendThroughDoors_42 : decode cX3_sendThroughDoors 42 = .ok (.aaload, 1) := by decide +kernel
theorem dX3_sendThroughDoors_43 : decode cX3_sendThroughDoors 43 = .ok (.iload_n 2, 1) := by decide +kernel
theorem dX3_sendThroughDoors_44 : decode cX3_sendThroughDoors 44 = .ok (.invokevirtual 216, 3) := by decide +kernel
theorem dX3_sendThroughDoors_47 : decode cX3_sendThroughDoors 47 = .ok (.iastore, 1) := by decide +kernel
theorem dX3_sendThroughDoors_48 : decode cX3_sendThroughDoors 48 = .ok (.iinc 2 1, 3) := by decide +kernel
theorem dX3_sendThroughDoors_51 : decode cX3_sendThroughDoors 51 = .ok (.goto (-30), 3) := by decide +kernel
theorem dX3_sendThroughDoors_54 : decode cX3_sendThroughDoors 54 = .ok (.iinc 1 1, 3) := by decide +kernel
theorem dX3_sendThroughDoors_57 : decode cX3_sendThroughDoors 57 = .ok (.goto (-55), 3) := by decide +kernel
theorem dX3_sendThroughDoors_60 : decode cX3_sendThroughDoors 60 = .ok (.iconst 0, 1) := by decide +kernel
theorem dX3_sendThroughDoors_61 : decode cX3_sendThroughDoors 61 = .ok (.istore_n 1, 1) := by decide +kernel
theorem dX3_sendThroughDoors_62 : decode cX3_sendThroughDoors 62 = .ok (.iload_n 1, 1) := by decide +kernel
theorem dX3_sendThroughDoors_63 : decode cX3_sendThroughDoors 63 = .ok (.aload_n 0, 1) := by decide +kernel
theorem dX3_sendThroughDoors_64 : decode cX3_sendThroughDoors 64 = .ok (.getfield 57, 3) := by decide +kernel
theorem dX3_sendThroughDoors_67 : decode cX3_sendThroughDoors 67 = .ok (.if_icmp .ge 86, 3) := by decide +kernel
theorem dX3_sendThroughDoors_70 : decode cX3_sendThroughDoors 70 = .ok (.iload_n 1, 1) := by decide +kernel
theorem dX3_sendThroughDoors_71 : decode cX3_sendThroughDoors 71 = .ok (.aload_n 0, 1) := by decide +kernel
theorem dX3_sendThroughDoors_72 : decode cX3_sendThroughDoors 72 = .ok (.getfield 19, 3) := by decide +kernel
theorem dX3_sendThroughDoors_75 : decode cX3_sendThroughDoors 75 = .ok (.arraylength, 1) := by decide +kernel
theorem dX3_sendThroughDoors_76 : decode cX3_sendThroughDoors 76 = .ok (.if_icmp .ge 77, 3) := by decide +kernel
theorem dX3_sendThroughDoors_79 : decode cX3_sendThroughDoors 79 = .ok (.aload_n 0, 1) := by decide +kernel
theorem dX3_sendThroughDoors_80 : decode cX3_sendThroughDoors 80 = .ok (.getfield 19, 3) := by decide +kernel
theorem dX3_sendThroughDoors_83 : decode cX3_sendThroughDoors 83 = .ok (.iload_n 1, 1) := by decide +kernel
theorem dX3_sendThroughDoors_84 : decode cX3_sendThroughDoors 84 = .ok (.aaload, 1) := by decide +kernel
theorem dX3_sendThroughDoors_85 : decode cX3_sendThroughDoors 85 = .ok (.astore_n 2, 1) := by decide +kernel
theorem dX3_sendThroughDoors_86 : decode cX3_sendThroughDoors 86 = .ok (.iconst 0, 1) := by decide +kernel
theorem dX3_sendThroughDoors_87 : decode cX3_sendThroughDoors 87 = .ok (.istore_n 3, 1) := by decide +kernel
theorem dX3_sendThroughDoors_88 : decode cX3_sendThroughDoors 88 = .ok (.iload_n 3, 1) := by decide +kernel
theorem dX3_sendThroughDoors_89 : decode cX3_sendThroughDoors 89 = .ok (.iconst 2, 1) := by decide +kernel
theorem dX3_sendThroughDoors_90 : decode cX3_sendThroughDoors 90 = .ok (.if_icmp .ge 57, 3) := by decide +kernel
theorem dX3_sendThroughDoors_93 : decode cX3_sendThroughDoors 93 = .ok (.aload_n 0, 1) := by decide +kernel
theorem dX3_sendThroughDoors_94 : decode cX3_sendThroughDoors 94 = .ok (.aload_n 2, 1) := by decide +kernel
theorem dX3_sendThroughDoors_95 : decode cX3_sendThroughDoors 95 = .ok (.getfield 100, 3) := by decide +kernel
theorem dX3_sendThroughDoors_98 : decode cX3_sendThroughDoors 98 = .ok (.iload_n 3, 1) := by decide +kernel
theorem dX3_sendThroughDoors_99 : decode cX3_sendThroughDoors 99 = .ok (.iaload, 1) := by decide +kernel
theorem dX3_sendThroughDoors_100 : decode cX3_sendThroughDoors 100 = .ok (.invokevirtual 79, 3) := by decide +kernel
theorem dX3_sendThroughDoors_103 : decode cX3_sendThroughDoors 103 = .ok (.astore 4, 2) := by decide +kernel
theorem dX3_sendThroughDoors_105 : decode cX3_sendThroughDoors 105 = .ok (.aload 4, 2) := by decide +kernel
theorem dX3_sendThroughDoors_107 : decode cX3_sendThroughDoors 107 = .ok (.ifnull 34, 3) := by decide +kernel
theorem dX3_sendThroughDoors_110 : decode cX3_sendThroughDoors 110 = .ok (.aload 4, 2) := by decide +kernel
theorem dX3_sendThroughDoors_112 : decode cX3_sendThroughDoors 112 = .ok (.dup, 1) := by decide +kernel
theorem dX3_sendThroughDoors_113 : decode cX3_sendThroughDoors 113 = .ok (.getfield 123, 3) := by decide +kernel
theorem dX3_sendThroughDoors_116 : decode cX3_sendThroughDoors 116 = .ok (.aload_n 2, 1) := by decide +kernel
theorem dX3_sendThroughDoors_117 : decode cX3_sendThroughDoors 117 = .ok (.getfield 213, 3) := by decide +kernel
theorem dX3_sendThroughDoors_120 : decode cX3_sendThroughDoors 120 = .ok (.iload_n 3, 1) := by decide +kernel
theorem dX3_sendThroughDoors_121 : decode cX3_sendThroughDoors 121 = .ok (.iaload, 1) := by decide +kernel
theorem dX3_sendThroughDoors_122 : decode cX3_sendThroughDoors 122 = .ok (.isub, 1) := by decide +kernel
theorem dX3_sendThroughDoors_123 : decode cX3_sendThroughDoors 123 = .ok (.putfield 123, 3) := by decide +kernel
theorem dX3_sendThroughDoors_126 : decode cX3_sendThroughDoors 126 = .ok (.aload_n 2, 1) := by decide +kernel
theorem dX3_sendThroughDoors_127 : decode cX3_sendThroughDoors 127 = .ok (.aload_n 2, 1) := by decide +kernel
theorem dX3_sendThroughDoors_128 : decode cX3_sendThroughDoors 128 = .ok (.getfield 213, 3) := by decide +kernel
theorem dX3_sendThroughDoors_131 : decode cX3_sendThroughDoors 131 = .ok (.iload_n 3, 1) := by decide +kernel
theorem dX3_sendThroughDoors_132 : decode cX3_sendThroughDoors 132 = .ok (.iaload, 1) := by decide +kernel
theorem dX3_sendThroughDoors_133 : decode cX3_sendThroughDoors 133 = .ok (.iload_n 3, 1) := by decide +kernel
theorem dX3_sendThroughDoors_134 : decode cX3_sendThroughDoors 134 = .ok (.aload_n 0, 1) := by decide +kernel
theorem dX3_sendThroughDoors_135 : decode cX3_sendThroughDoors 135 = .ok (.getfield 60, 3) := by decide +kernel
theorem dX3_sendThroughDoors_138 : decode cX3_sendThroughDoors 138 = .ok (.invokevirtual 220, 3) := by decide +kernel
theorem dX3_sendThroughDoors_141 : decode cX3_sendThroughDoors 141 = .ok (.iinc 3 1, 3) := by decide +kernel
theorem dX3_sendThroughDoors_144 : decode cX3_sendThroughDoors 144 = .ok (.goto (-56), 3) := by decide +kernel
theorem dX3_sendThroughDoors_147 : decode cX3_sendThroughDoors 147 = .ok (.iinc 1 1, 3) := by decide +kernel
theorem dX3_sendThroughDoors_150 : decode cX3_sendThroughDoors 150 = .ok (.goto (-88), 3) := by decide +kernel
theorem dX3_sendThroughDoors_153 : decode cX3_sendThroughDoors 153 = .ok (.return_, 1) := by decide +kernel
set_option maxRecDepth 20000 in
theorem ggX3_letArrive_X0_takeArrived : GoodIn wsX3_letArrive wsX0_takeArrived := goodIn_r _ [11, 12, 13, 14, 10, 15, 16, 17, 18, 19, 37, 38, 39, 40, 41, 42, 43, 44, 45, 46] (by decide +kernel) (by decide +kernel)
set_option maxRecDepth 20000 in
theorem gX3_letArrive_X0_takeArrived : GoodIn wsX3_letArrive (wsV RX3 223 RX0 yX0_takeArrived wsX0_takeArrived) := goodIn_app (goodIn_of _ (by decide +kernel)) ggX3_letArrive_X0_takeArrived
set_option maxRecDepth 20000 in
theorem ggX3_letArrive_X3_roomAt : GoodIn wsX3_letArrive wsX3_roomAt := goodIn_r _ [24, 25, 26, 27, 28, 29, 30, 31, 32, 33, 34, 35, 36] (by decide +kernel) (by decide +kernel)
set_option maxRecDepth 20000 in
theorem gX3_letArrive_X3_roomAt : GoodIn wsX3_letArrive (wsV RX3 79 RX3 yX3_roomAt wsX3_roomAt) := goodIn_app (goodIn_of _ (by decide +kernel)) ggX3_letArrive_X3_roomAt
theorem dX3_letArrive_0 : decode cX3_letArrive 0 = .ok (.iconst 0, 1) := by decide +kernel
theorem dX3_letArrive_1 : decode cX3_letArrive 1 = .ok (.istore_n 1, 1) := by decide +kernel
theorem dX3_letArrive_2 : decode cX3_letArrive 2 = .ok (.iload_n 1, 1) := by decide +kernel
theorem dX3_letArrive_3 : decode cX3_letArrive 3 = .ok (.aload_n 0, 1) := by decide +kernel
theorem dX3_letArrive_4 : decode cX3_letArrive 4 = .ok (.getfield 57, 3) := by decide +kernel
theorem dX3_letArrive_7 : decode cX3_letArrive 7 = .ok (.if_icmp .ge 92, 3) := by decide +kernel
theorem dX3_letArrive_10 : decode cX3_letArrive 10 = .ok (.iload_n 1, 1) := by decide +kernel
theorem dX3_letArrive_11 : decode cX3_letArrive 11 = .ok (.aload_n 0, 1) := by decide +kernel
theorem dX3_letArrive_12 : decode cX3_letArrive 12 = .ok (.getfield 19, 3) := by decide +kernel
theorem dX3_letArrive_15 : decode cX3_letArrive 15 = .ok (.arraylength, 1) := by decide +kernel
theorem dX3_letArrive_16 : decode cX3_letArrive 16 = .ok (.if_icmp .ge 83, 3) := by decide +kernel
theorem dX3_letArrive_19 : decode cX3_letArrive 19 = .ok (.aload_n 0, 1) := by decide +kernel
theorem dX3_letArrive_20 : decode cX3_letArrive 20 = .ok (.getfield 19, 3) := by decide +kernel
theorem dX3_letArrive_23 : decode cX3_letArrive 23 = .ok (.iload_n 1, 1) := by decide +kernel
theorem dX3_letArrive_24 : decode cX3_letArrive 24 = .ok (.aaload, 1) := by decide +kernel
theorem dX3_letArrive_25 : decode cX3_letArrive 25 = .ok (.astore_n 2, 1) := by decide +kernel
theorem dX3_letArrive_26 : decode cX3_letArrive 26 = .ok (.iconst 0, 1) := by decide +kernel
theorem dX3_letArrive_27 : decode cX3_letArrive 27 = .ok (.istore_n 3, 1) := by decide +kernel
theorem dX3_letArrive_28 : decode cX3_letArrive 28 = .ok (.iload_n 3, 1) := by decide +kernel
theorem dX3_letArrive_29 : decode cX3_letArrive 29 = .ok (.iconst 2, 1) := by decide +kernel
theorem dX3_letArrive_30 : decode cX3_letArrive 30 = .ok (.if_icmp .ge 63, 3) := by decide +kernel
theorem dX3_letArrive_33 : decode cX3_letArrive 33 = .ok (.aload_n 2, 1) := by decide +kernel
theorem dX3_letArrive_34 : decode cX3_letArrive 34 = .ok (.iload_n 3, 1) := by decide +kernel
theorem dX3_letArrive_35 : decode cX3_letArrive 35 = .ok (.aload_n 0, 1) := by decide +kernel
theorem dX3_letArrive_36 : decode cX3_letArrive 36 = .ok (.getfield 60, 3) := by decide +kernel
theorem dX3_letArrive_39 : decode cX3_letArrive 39 = .ok (.invokevirtual 223, 3) := by decide +kernel
theorem dX3_letArrive_42 : decode cX3_letArrive 42 = .ok (.istore 4, 2) := by decide +kernel
theorem dX3_letArrive_44 : decode cX3_letArrive 44 = .ok (.aload_n 0, 1) := by decide +kernel
theorem dX3_letArrive_45 : decode cX3_letArrive 45 = .ok (.aload_n 2, 1) := by decide +kernel
theorem dX3_letArrive_46 : decode cX3_letArrive 46 = .ok (.getfield 100, 3) := by decide +kernel
theorem dX3_letArrive_49 : decode cX3_letArrive 49 = .ok (.iload_n 3, 1) := by decide +kernel
theorem dX3_letArrive_50 : decode cX3_letArrive 50 = .ok (.iaload, 1) := by decide +kernel
theorem dX3_letArrive_51 : decode cX3_letArrive 51 = .ok (.invokevirtual 79, 3) := by decide +kernel
theorem dX3_letArrive_54 : decode cX3_letArrive 54 = .ok (.astore 5, 2) := by decide +kernel
theorem dX3_letArrive_56 : decode cX3_letArrive 56 = .ok (.aload 5, 2) := by decide +kernel
theorem dX3_letArrive_58 : decode cX3_letArrive 58 = .ok (.ifnonnull 17, 3) := by decide +kernel
theorem dX3_letArrive_61 : decode cX3_letArrive 61 = .ok (.aload_n 0, 1) := by decide +kernel
theorem dX3_letArrive_62 : decode cX3_letArrive 62 = .ok (.dup, 1) := by decide +kernel
theorem dX3_letArrive_63 : decode cX3_letArrive 63 = .ok (.getfield 63, 3) := by decide +kernel
theorem dX3_letArrive_66 : decode cX3_letArrive 66 = .ok (.iload 4, 2) := by decide +kernel
theorem dX3_letArrive_68 : decode cX3_letArrive 68 = .ok (.iadd, 1) := by decide +kernel
theorem dX3_letArrive_69 : decode cX3_letArrive 69 = .ok (.putfield 63, 3) := by decide +kernel
theorem dX3_letArrive_72 : decode cX3_letArrive 72 = .ok (.goto 15, 3) := by decide +kernel
theorem dX3_letArrive_75 : decode cX3_letArrive 75 = .ok (.aload 5, 2) := by decide +kernel
theorem dX3_letArrive_77 : decode cX3_letArrive 77 = .ok (.dup, 1) := by decide +kernel
theorem dX3_letArrive_78 : decode cX3_letArrive 78 = .ok (.getfield 123, 3) := by decide +kernel
theorem dX3_letArrive_81 : decode cX3_letArrive 81 = .ok (.iload 4, 2) := by decide +kernel
theorem dX3_letArrive_83 : decode cX3_letArrive 83 = .ok (.iadd, 1) := by decide +kernel
theorem dX3_letArrive_84 : decode cX3_letArrive 84 = .ok (.putfield 123, 3) := by decide +kernel
theorem dX3_letArrive_87 : decode cX3_letArrive 87 = .ok (.iinc 3 1, 3) := by decide +kernel
theorem dX3_letArrive_90 : decode cX3_letArrive 90 = .ok (.goto (-62), 3) := by decide +kernel
theorem dX3_letArrive_93 : decode cX3_letArrive 93 = .ok (.iinc 1 1, 3) := by decide +kernel
theorem dX3_letArrive_96 : decode cX3_letArrive 96 = .ok (.goto (-94), 3) := by decide +kernel
theorem dX3_letArrive_99 : decode cX3_letArrive 99 = .ok (.return_, 1) := by decide +kernel
set_option maxRecDepth 20000 in
theorem ggX4_init_X1_init : GoodIn wsX4_init wsX1_init := goodIn_r _ [9, 10, 2, 3] (by decide +kernel) (by decide +kernel)
set_option maxRecDepth 20000 in
theorem gX4_init_X1_init_n17 : GoodIn wsX4_init (wsX1_init) := ggX4_init_X1_init
theorem dX4_init_0 : decode cX4_init 0 = .ok (.aload_n 0, 1) := by decide +kernel
theorem dX4_init_1 : decode cX4_init 1 = .ok (.invokespecial 3, 3) := by decide +kernel
theorem dX4_init_4 : decode cX4_init 4 = .ok (.aload_n 0, 1) := by decide +kernel
theorem dX4_init_5 : decode cX4_init 5 = .ok (.bipush 16, 2) := by decide +kernel
theorem dX4_init_7 : decode cX4_init 7 = .ok (.anewarray 9, 3) := by decide +kernel
theorem dX4_init_10 : decode cX4_init 10 = .ok (.putfield 11, 3) := by decide +kernel
theorem dX4_init_13 : decode cX4_init 13 = .ok (.iconst 0, 1) := by decide +kernel
theorem dX4_init_14 : decode cX4_init 14 = .ok (.istore_n 1, 1) := by decide +kernel
theorem dX4_init_15 : decode cX4_init 15 = .ok (.iload_n 1, 1) := by decide +kernel
theorem dX4_init_16 : decode cX4_init 16 = .ok (.aload_n 0, 1) := by decide +kernel
theorem dX4_init_17 : decode cX4_init 17 = .ok (.getfield 11, 3) := by decide +kernel
theorem dX4_init_20 : decode cX4_init 20 = .ok (.arraylength, 1) := by decide +kernel
theorem dX4_init_21 : decode cX4_init 21 = .ok (.if_icmp .ge 22, 3) := by decide +kernel
theorem dX4_init_24 : decode cX4_init 24 = .ok (.aload_n 0, 1) := by decide +kernel
theorem dX4_init_25 : decode cX4_init 25 = .ok (.getfield 11, 3) := by decide +kernel
theorem dX4_init_28 : decode cX4_init 28 = .ok (.iload_n 1, 1) := by decide +kernel
theorem dX4_init_29 : decode cX4_init 29 = .ok (.new 9, 3) := by decide +kernel
theorem dX4_init_32 : decode cX4_init 32 = .ok (.dup, 1) := by decide +kernel
theorem dX4_init_33 : decode cX4_init 33 = .ok (.invokespecial 17, 3) := by decide +kernel
theorem dX4_init_36 : decode cX4_init 36 = .ok (.aastore, 1) := by decide +kernel
theorem dX4_init_37 : decode cX4_init 37 = .ok (.iinc 1 1, 3) := by decide +kernel
theorem dX4_init_40 : decode cX4_init 40 = .ok (.goto (-25), 3) := by decide +kernel
theorem dX4_init_43 : decode cX4_init 43 = .ok (.return_, 1) := by decide +kernel
set_option maxRecDepth 20000 in
theorem ggX4_copyFrom_X1_copyFrom : GoodIn wsX4_copyFrom wsX1_copyFrom := goodIn_r _ [7, 8, 9, 10, 11, 12, 15, 16, 17, 18, 19] (by decide +kernel) (by decide +kernel)
set_option maxRecDepth 20000 in
theorem gX4_copyFrom_X1_copyFrom : GoodIn wsX4_copyFrom (wsV RX4 22 RX1 yX1_copyFrom wsX1_copyFrom) := goodIn_app (goodIn_of _ (by decide +kernel)) ggX4_copyFrom_X1_copyFrom
theorem dX4_copyFrom_0 : decode cX4_copyFrom 0 = .ok (.aload_n 0, 1) := by decide +kernel
theorem dX4_copyFrom_1 : decode cX4_copyFrom 1 = .ok (.aload_n 1, 1) := by decide +kernel
theorem dX4_copyFrom_2 : decode cX4_copyFrom 2 = .ok (.getfield 18, 3) := by decide +kernel
