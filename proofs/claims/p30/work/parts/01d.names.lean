/-! names, words, instructions (of claim/NAMES.whole.lean.txt) -/
theorem dX7_sound_1 : decode cX7_sound 1 = .ok (.getfield 10, 3) := by decide +kernel
theorem dX7_sound_4 : decode cX7_sound 4 = .ok (.iload_n 1, 1) := by decide +kernel
theorem dX7_sound_5 : decode cX7_sound 5 = .ok (.invokevirtual 56, 3) := by decide +kernel
theorem dX7_sound_8 : decode cX7_sound 8 = .ok (.ifnull 35, 3) := by decide +kernel
theorem dX7_sound_11 : decode cX7_sound 11 = .ok (.iload_n 2, 1) := by decide +kernel
theorem dX7_sound_12 : decode cX7_sound 12 = .ok (.iconst 0, 1) := by decide +kernel
theorem dX7_sound_13 : decode cX7_sound 13 = .ok (.sipush 5000, 3) := by decide +kernel
theorem dX7_sound_16 : decode cX7_sound 16 = .ok (.invokestatic 40, 3) := by decide +kernel
theorem dX7_sound_19 : decode cX7_sound 19 = .ok (.ifCond .eq 24, 3) := by decide +kernel
theorem dX7_sound_22 : decode cX7_sound 22 = .ok (.iload_n 3, 1) := by decide +kernel
theorem dX7_sound_23 : decode cX7_sound 23 = .ok (.iconst 1, 1) := by decide +kernel
theorem dX7_sound_24 : decode cX7_sound 24 = .ok (.bipush 20, 2) := by decide +kernel
theorem dX7_sound_26 : decode cX7_sound 26 = .ok (.invokestatic 40, 3) := by decide +kernel
theorem dX7_sound_29 : decode cX7_sound 29 = .ok (.ifCond .eq 14, 3) := by decide +kernel
theorem dX7_sound_32 : decode cX7_sound 32 = .ok (.iload 4, 2) := by decide +kernel
theorem dX7_sound_34 : decode cX7_sound 34 = .ok (.iconst 1, 1) := by decide +kernel
theorem dX7_sound_35 : decode cX7_sound 35 = .ok (.ldc 99, 2) := by decide +kernel
theorem dX7_sound_37 : decode cX7_sound 37 = .ok (.invokestatic 40, 3) := by decide +kernel
theorem dX7_sound_40 : decode cX7_sound 40 = .ok (.ifCond .ne 5, 3) := by decide +kernel
theorem dX7_sound_43 : decode cX7_sound 43 = .ok (.iconst (-1), 1) := by decide +kernel
theorem dX7_sound_44 : decode cX7_sound 44 = .ok (.ireturn, 1) := by decide +kernel
theorem dX7_sound_45 : decode cX7_sound 45 = .ok (.iload_n 2, 1) := by decide +kernel
theorem dX7_sound_46 : decode cX7_sound 46 = .ok (.aload_n 0, 1) := by decide +kernel
theorem dX7_sound_47 : decode cX7_sound 47 = .ok (.getfield 10, 3) := by decide +kernel
theorem dX7_sound_50 : decode cX7_sound 50 = .ok (.getfield 136, 3) := by decide +kernel
theorem dX7_sound_53 : decode cX7_sound 53 = .ok (.if_icmp .ge 6, 3) := by decide +kernel
theorem dX7_sound_56 : decode cX7_sound 56 = .ok (.bipush (-2), 2) := by decide +kernel
theorem dX7_sound_58 : decode cX7_sound 58 = .ok (.ireturn, 1) := by decide +kernel
theorem dX7_sound_59 : decode cX7_sound 59 = .ok (.aload_n 0, 1) := by decide +kernel
theorem dX7_sound_60 : decode cX7_sound 60 = .ok (.getfield 36, 3) := by decide +kernel
theorem dX7_sound_63 : decode cX7_sound 63 = .ok (.iload_n 1, 1) := by decide +kernel
theorem dX7_sound_64 : decode cX7_sound 64 = .ok (.iload_n 2, 1) := by decide +kernel
theorem dX7_sound_65 : decode cX7_sound 65 = .ok (.iload_n 3, 1) := by decide +kernel
theorem dX7_sound_66 : decode cX7_sound 66 = .ok (.iload 4, 2) := by decide +kernel
theorem dX7_sound_68 : decode cX7_sound 68 = .ok (.invokevirtual 194, 3) := by decide +kernel
theorem dX7_sound_71 : decode cX7_sound 71 = .ok (.aload_n 0, 1) := by decide +kernel
theorem dX7_sound_72 : decode cX7_sound 72 = .ok (.getfield 10, 3) := by decide +kernel
theorem dX7_sound_75 : decode cX7_sound 75 = .ok (.getfield 132, 3) := by decide +kernel
theorem dX7_sound_78 : decode cX7_sound 78 = .ok (.invokevirtual 198, 3) := by decide +kernel
theorem dX7_sound_81 : decode cX7_sound 81 = .ok (.ifCond .ne 23, 3) := by decide +kernel
theorem dX7_sound_84 : decode cX7_sound 84 = .ok (.aload_n 0, 1) := by decide +kernel
theorem dX7_sound_85 : decode cX7_sound 85 = .ok (.getfield 10, 3) := by decide +kernel
theorem dX7_sound_88 : decode cX7_sound 88 = .ok (.getfield 181, 3) := by decide +kernel
theorem dX7_sound_91 : decode cX7_sound 91 = .ok (.aload_n 0, 1) := by decide +kernel
theorem dX7_sound_92 : decode cX7_sound 92 = .ok (.getfield 36, 3) := by decide +kernel
theorem dX7_sound_95 : decode cX7_sound 95 = .ok (.invokevirtual 202, 3) := by decide +kernel
theorem dX7_sound_98 : decode cX7_sound 98 = .ok (.iadd, 1) := by decide +kernel
theorem dX7_sound_99 : decode cX7_sound 99 = .ok (.ldc 205, 2) := by decide +kernel
theorem dX7_sound_101 : decode cX7_sound 101 = .ok (.if_icmp .le 6, 3) := by decide +kernel
theorem dX7_sound_104 : decode cX7_sound 104 = .ok (.bipush (-3), 2) := by decide +kernel
theorem dX7_sound_106 : decode cX7_sound 106 = .ok (.ireturn, 1) := by decide +kernel
theorem dX7_sound_107 : decode cX7_sound 107 = .ok (.aload_n 0, 1) := by decide +kernel
theorem dX7_sound_108 : decode cX7_sound 108 = .ok (.getfield 22, 3) := by decide +kernel
theorem dX7_sound_111 : decode cX7_sound 111 = .ok (.aload_n 0, 1) := by decide +kernel
theorem dX7_sound_112 : decode cX7_sound 112 = .ok (.getfield 10, 3) := by decide +kernel
theorem dX7_sound_115 : decode cX7_sound 115 = .ok (.invokevirtual 48, 3) := by decide +kernel
theorem dX7_sound_118 : decode cX7_sound 118 = .ok (.aload_n 0, 1) := by decide +kernel
theorem dX7_sound_119 : decode cX7_sound 119 = .ok (.getfield 10, 3) := by decide +kernel
theorem dX7_sound_122 : decode cX7_sound 122 = .ok (.aload_n 0, 1) := by decide +kernel
theorem dX7_sound_123 : decode cX7_sound 123 = .ok (.getfield 36, 3) := by decide +kernel
theorem dX7_sound_126 : decode cX7_sound 126 = .ok (.invokevirtual 206, 3) := by decide +kernel
theorem dX7_sound_129 : decode cX7_sound 129 = .ok (.aload_n 0, 1) := by decide +kernel
theorem dX7_sound_130 : decode cX7_sound 130 = .ok (.getfield 10, 3) := by decide +kernel
theorem dX7_sound_133 : decode cX7_sound 133 = .ok (.getfield 132, 3) := by decide +kernel
theorem dX7_sound_136 : decode cX7_sound 136 = .ok (.getfield 165, 3) := by decide +kernel
theorem dX7_sound_139 : decode cX7_sound 139 = .ok (.ireturn, 1) := by decide +kernel
set_option maxRecDepth 20000 in
theorem ggX7_planDoor_X3_doorAt : GoodIn wsX7_planDoor wsX3_doorAt := goodIn_r _ [11, 12, 13, 116, 117, 118, 119, 120, 121, 122, 123, 124, 125] (by decide +kernel) (by decide +kernel)
set_option maxRecDepth 20000 in
theorem gX7_planDoor_X3_doorAt : GoodIn wsX7_planDoor (wsV RX7 75 RX3 yX3_doorAt wsX3_doorAt) := goodIn_app (goodIn_of _ (by decide +kernel)) ggX7_planDoor_X3_doorAt
set_option maxRecDepth 20000 in
theorem ggX7_planDoor_X7_isWithin : GoodIn wsX7_planDoor wsX7_isWithin := goodIn_r _ [17] (by decide +kernel) (by decide +kernel)
set_option maxRecDepth 20000 in
theorem gX7_planDoor_X7_isWithin : GoodIn wsX7_planDoor (va_wsS RX7 40 yX7_isWithin wsX7_isWithin) := goodIn_app (goodIn_of _ (by decide +kernel)) ggX7_planDoor_X7_isWithin
set_option maxRecDepth 20000 in
theorem ggX7_planDoor_X4_isFull : GoodIn wsX7_planDoor wsX4_isFull := goodIn_r _ [22, 23, 24, 126, 127] (by decide +kernel) (by decide +kernel)
set_option maxRecDepth 20000 in
theorem gX7_planDoor_X4_isFull : GoodIn wsX7_planDoor (wsV RX7 198 RX4 yX4_isFull wsX4_isFull) := goodIn_app (goodIn_of _ (by decide +kernel)) ggX7_planDoor_X4_isFull
set_option maxRecDepth 20000 in
theorem ggX7_planDoor_X2_record : GoodIn wsX7_planDoor wsX2_record := goodIn_r _ [29, 30, 31, 32, 33, 34, 28, 35, 36, 37, 38, 10, 39, 40, 13, 41, 42, 43, 44, 45, 46, 47, 12, 48, 49, 50, 51, 52, 53, 54, 55, 56, 57, 58, 59, 60, 61, 62, 63, 64, 65, 66, 67, 68, 69, 70, 71, 72, 73, 74, 75, 76, 77, 78, 79, 80, 81, 82, 21, 83, 23, 24, 84, 85, 86, 87, 88, 89, 90, 91, 92, 93, 128, 129, 116, 117, 118, 119, 120, 121, 122, 123, 124, 125, 130, 131, 132, 133, 134, 135, 136, 137, 138, 139, 140, 141, 142, 143, 144, 145, 146, 126, 127, 147, 148, 149, 150, 151] (by decide +kernel) (by decide +kernel)
set_option maxRecDepth 20000 in
theorem gX7_planDoor_X2_record : GoodIn wsX7_planDoor (wsV RX7 48 RX2 yX2_record wsX2_record) := goodIn_app (goodIn_of _ (by decide +kernel)) ggX7_planDoor_X2_record
set_option maxRecDepth 20000 in
theorem ggX7_planDoor_X1_becomeTarget : GoodIn wsX7_planDoor wsX1_becomeTarget := goodIn_r _ [97, 89, 91, 90, 92, 93, 147, 148, 149, 150, 151] (by decide +kernel) (by decide +kernel)
set_option maxRecDepth 20000 in
theorem gX7_planDoor_X1_becomeTarget : GoodIn wsX7_planDoor (wsV RX7 210 RX1 yX1_becomeTarget wsX1_becomeTarget) := goodIn_app (goodIn_of _ (by decide +kernel)) ggX7_planDoor_X1_becomeTarget
set_option maxRecDepth 20000 in
theorem ggX7_planDoor_X3_take : GoodIn wsX7_planDoor wsX3_take := goodIn_r _ [101, 41, 50, 102, 103, 104, 21, 105, 23, 24, 106, 84, 85, 86, 87, 88, 89, 90, 91, 92, 93, 107, 108, 109, 110, 116, 117, 118, 119, 120, 121, 122, 123, 124, 125, 126, 127, 147, 148, 149, 150, 151] (by decide +kernel) (by decide +kernel)
set_option maxRecDepth 20000 in
theorem gX7_planDoor_X3_take : GoodIn wsX7_planDoor (wsV RX7 206 RX3 yX3_take wsX3_take) := goodIn_app (goodIn_of _ (by decide +kernel)) ggX7_planDoor_X3_take
theorem dX7_planDoor_0 : decode cX7_planDoor 0 = .ok (.aload_n 0, 1) := by decide +kernel
theorem dX7_planDoor_1 : decode cX7_planDoor 1 = .ok (.getfield 10, 3) := by decide +kernel
theorem dX7_planDoor_4 : decode cX7_planDoor 4 = .ok (.iload_n 1, 1) := by decide +kernel
theorem dX7_planDoor_5 : decode cX7_planDoor 5 = .ok (.invokevirtual 75, 3) := by decide +kernel
theorem dX7_planDoor_8 : decode cX7_planDoor 8 = .ok (.ifnull 24, 3) := by decide +kernel
theorem dX7_planDoor_11 : decode cX7_planDoor 11 = .ok (.iload_n 2, 1) := by decide +kernel
theorem dX7_planDoor_12 : decode cX7_planDoor 12 = .ok (.iconst 0, 1) := by decide +kernel
theorem dX7_planDoor_13 : decode cX7_planDoor 13 = .ok (.sipush 5000, 3) := by decide +kernel
theorem dX7_planDoor_16 : decode cX7_planDoor 16 = .ok (.invokestatic 40, 3) := by decide +kernel
theorem dX7_planDoor_19 : decode cX7_planDoor 19 = .ok (.ifCond .eq 13, 3) := by decide +kernel
theorem dX7_planDoor_22 : decode cX7_planDoor 22 = .ok (.iload_n 3, 1) := by decide +kernel
theorem dX7_planDoor_23 : decode cX7_planDoor 23 = .ok (.iconst 0, 1) := by decide +kernel
theorem dX7_planDoor_24 : decode cX7_planDoor 24 = .ok (.bipush 10, 2) := by decide +kernel
theorem dX7_planDoor_26 : decode cX7_planDoor 26 = .ok (.invokestatic 40, 3) := by decide +kernel
theorem dX7_planDoor_29 : decode cX7_planDoor 29 = .ok (.ifCond .ne 5, 3) := by decide +kernel
theorem dX7_planDoor_32 : decode cX7_planDoor 32 = .ok (.iconst (-1), 1) := by decide +kernel
theorem dX7_planDoor_33 : decode cX7_planDoor 33 = .ok (.ireturn, 1) := by decide +kernel
theorem dX7_planDoor_34 : decode cX7_planDoor 34 = .ok (.iload_n 2, 1) := by decide +kernel
theorem dX7_planDoor_35 : decode cX7_planDoor 35 = .ok (.aload_n 0, 1) := by decide +kernel
theorem dX7_planDoor_36 : decode cX7_planDoor 36 = .ok (.getfield 10, 3) := by decide +kernel
theorem dX7_planDoor_39 : decode cX7_planDoor 39 = .ok (.getfield 136, 3) := by decide +kernel
theorem dX7_planDoor_42 : decode cX7_planDoor 42 = .ok (.if_icmp .ge 6, 3) := by decide +kernel
theorem dX7_planDoor_45 : decode cX7_planDoor 45 = .ok (.bipush (-2), 2) := by decide +kernel
theorem dX7_planDoor_47 : decode cX7_planDoor 47 = .ok (.ireturn, 1) := by decide +kernel
theorem dX7_planDoor_48 : decode cX7_planDoor 48 = .ok (.aload_n 0, 1) := by decide +kernel
theorem dX7_planDoor_49 : decode cX7_planDoor 49 = .ok (.getfield 10, 3) := by decide +kernel
theorem dX7_planDoor_52 : decode cX7_planDoor 52 = .ok (.getfield 132, 3) := by decide +kernel
theorem dX7_planDoor_55 : decode cX7_planDoor 55 = .ok (.invokevirtual 198, 3) := by decide +kernel
theorem dX7_planDoor_58 : decode cX7_planDoor 58 = .ok (.ifCond .eq 6, 3) := by decide +kernel
theorem dX7_planDoor_61 : decode cX7_planDoor 61 = .ok (.bipush (-3), 2) := by decide +kernel
theorem dX7_planDoor_63 : decode cX7_planDoor 63 = .ok (.ireturn, 1) := by decide +kernel
theorem dX7_planDoor_64 : decode cX7_planDoor 64 = .ok (.aload_n 0, 1) := by decide +kernel
theorem dX7_planDoor_65 : decode cX7_planDoor 65 = .ok (.getfield 22, 3) := by decide +kernel
theorem dX7_planDoor_68 : decode cX7_planDoor 68 = .ok (.aload_n 0, 1) := by decide +kernel
theorem dX7_planDoor_69 : decode cX7_planDoor 69 = .ok (.getfield 10, 3) := by decide +kernel
theorem dX7_planDoor_72 : decode cX7_planDoor 72 = .ok (.invokevirtual 48, 3) := by decide +kernel
theorem dX7_planDoor_75 : decode cX7_planDoor 75 = .ok (.aload_n 0, 1) := by decide +kernel
theorem dX7_planDoor_76 : decode cX7_planDoor 76 = .ok (.getfield 36, 3) := by decide +kernel
theorem dX7_planDoor_79 : decode cX7_planDoor 79 = .ok (.iload_n 1, 1) := by decide +kernel
theorem dX7_planDoor_80 : decode cX7_planDoor 80 = .ok (.iload_n 2, 1) := by decide +kernel
theorem dX7_planDoor_81 : decode cX7_planDoor 81 = .ok (.iload_n 3, 1) := by decide +kernel
theorem dX7_planDoor_82 : decode cX7_planDoor 82 = .ok (.invokevirtual 210, 3) := by decide +kernel
theorem dX7_planDoor_85 : decode cX7_planDoor 85 = .ok (.aload_n 0, 1) := by decide +kernel
theorem dX7_planDoor_86 : decode cX7_planDoor 86 = .ok (.getfield 10, 3) := by decide +kernel
theorem dX7_planDoor_89 : decode cX7_planDoor 89 = .ok (.aload_n 0, 1) := by decide +kernel
theorem dX7_planDoor_90 : decode cX7_planDoor 90 = .ok (.getfield 36, 3) := by decide +kernel
theorem dX7_planDoor_93 : decode cX7_planDoor 93 = .ok (.invokevirtual 206, 3) := by decide +kernel
theorem dX7_planDoor_96 : decode cX7_planDoor 96 = .ok (.aload_n 0, 1) := by decide +kernel
theorem dX7_planDoor_97 : decode cX7_planDoor 97 = .ok (.getfield 10, 3) := by decide +kernel
theorem dX7_planDoor_100 : decode cX7_planDoor 100 = .ok (.getfield 132, 3) := by decide +kernel
theorem dX7_planDoor_103 : decode cX7_planDoor 103 = .ok (.getfield 165, 3) := by decide +kernel
theorem dX7_planDoor_106 : decode cX7_planDoor 106 = .ok (.ireturn, 1) := by decide +kernel
set_option maxRecDepth 20000 in
theorem ggX7_cancel_X4_entryAt : GoodIn wsX7_cancel wsX4_entryAt := goodIn_r _ [9, 10, 11, 104, 105] (by decide +kernel) (by decide +kernel)
set_option maxRecDepth 20000 in
theorem gX7_cancel_X4_entryAt : GoodIn wsX7_cancel (wsV RX7 214 RX4 yX4_entryAt wsX4_entryAt) := goodIn_app (goodIn_of _ (by decide +kernel)) ggX7_cancel_X4_entryAt
set_option maxRecDepth 20000 in
theorem ggX7_cancel_X2_record : GoodIn wsX7_cancel wsX2_record := goodIn_r _ [16, 17, 18, 19, 20, 21, 15, 22, 23, 24, 25, 26, 27, 28, 29, 30, 31, 32, 33, 34, 35, 36, 37, 38, 39, 40, 41, 42, 43, 44, 45, 46, 47, 48, 49, 50, 51, 52, 53, 54, 55, 56, 57, 58, 59, 60, 61, 62, 63, 64, 65, 66, 67, 68, 69, 70, 71, 72, 8, 73, 10, 11, 74, 75, 76, 77, 78, 79, 80, 81, 82, 83, 106, 107, 94, 95, 96, 97, 98, 99, 100, 101, 102, 103, 108, 109, 110, 111, 112, 113, 114, 115, 116, 117, 118, 119, 120, 121, 122, 123, 124, 104, 105, 125, 126, 127, 128, 129] (by decide +kernel) (by decide +kernel)
set_option maxRecDepth 20000 in
theorem gX7_cancel_X2_record : GoodIn wsX7_cancel (wsV RX7 48 RX2 yX2_record wsX2_record) := goodIn_app (goodIn_of _ (by decide +kernel)) ggX7_cancel_X2_record
set_option maxRecDepth 20000 in
theorem ggX7_cancel_X4_drop : GoodIn wsX7_cancel wsX4_drop := goodIn_r _ [87, 11, 10, 88, 6, 7, 8, 9, 104, 105] (by decide +kernel) (by decide +kernel)
set_option maxRecDepth 20000 in
theorem gX7_cancel_X4_drop : GoodIn wsX7_cancel (wsV RX7 218 RX4 yX4_drop wsX4_drop) := goodIn_app (goodIn_of _ (by decide +kernel)) ggX7_cancel_X4_drop
theorem dX7_cancel_0 : decode cX7_cancel 0 = .ok (.aload_n 0, 1) := by decide +kernel
theorem dX7_cancel_1 : decode cX7_cancel 1 = .ok (.getfield 10, 3) := by decide +kernel
theorem dX7_cancel_4 : decode cX7_cancel 4 = .ok (.getfield 132, 3) := by decide +kernel
theorem dX7_cancel_7 : decode cX7_cancel 7 = .ok (.iload_n 1, 1) := by decide +kernel
theorem dX7_cancel_8 : decode cX7_cancel 8 = .ok (.invokevirtual 214, 3) := by decide +kernel
theorem dX7_cancel_11 : decode cX7_cancel 11 = .ok (.ifnonnull 5, 3) := by decide +kernel
theorem dX7_cancel_14 : decode cX7_cancel 14 = .ok (.iconst (-1), 1) := by decide +kernel
theorem dX7_cancel_15 : decode cX7_cancel 15 = .ok (.ireturn, 1) := by decide +kernel
theorem dX7_cancel_16 : decode cX7_cancel 16 = .ok (.aload_n 0, 1) := by decide +kernel
theorem dX7_cancel_17 : decode cX7_cancel 17 = .ok (.getfield 22, 3) := by decide +kernel
theorem dX7_cancel_20 : decode cX7_cancel 20 = .ok (.aload_n 0, 1) := by decide +kernel
theorem dX7_cancel_21 : decode cX7_cancel 21 = .ok (.getfield 10, 3) := by decide +kernel
theorem dX7_cancel_24 : decode cX7_cancel 24 = .ok (.invokevirtual 48, 3) := by decide +kernel
theorem dX7_cancel_27 : decode cX7_cancel 27 = .ok (.aload_n 0, 1) := by decide +kernel
theorem dX7_cancel_28 : decode cX7_cancel 28 = .ok (.getfield 10, 3) := by decide +kernel
theorem dX7_cancel_31 : decode cX7_cancel 31 = .ok (.getfield 132, 3) := by decide +kernel
theorem dX7_cancel_34 : decode cX7_cancel 34 = .ok (.iload_n 1, 1) := by decide +kernel
theorem dX7_cancel_35 : decode cX7_cancel 35 = .ok (.invokevirtual 218, 3) := by decide +kernel
theorem dX7_cancel_38 : decode cX7_cancel 38 = .ok (.aload_n 0, 1) := by decide +kernel
theorem dX7_cancel_39 : decode cX7_cancel 39 = .ok (.getfield 10, 3) := by decide +kernel
theorem dX7_cancel_42 : decode cX7_cancel 42 = .ok (.getfield 132, 3) := by decide +kernel
theorem dX7_cancel_45 : decode cX7_cancel 45 = .ok (.getfield 165, 3) := by decide +kernel
theorem dX7_cancel_48 : decode cX7_cancel 48 = .ok (.ireturn, 1) := by decide +kernel
set_option maxRecDepth 20000 in
theorem ggX7_plan_X7_isWithin : GoodIn wsX7_plan wsX7_isWithin := goodIn_r _ [11] (by decide +kernel) (by decide +kernel)
set_option maxRecDepth 20000 in
theorem gX7_plan_X7_isWithin : GoodIn wsX7_plan (va_wsS RX7 40 yX7_isWithin wsX7_isWithin) := goodIn_app (goodIn_of _ (by decide +kernel)) ggX7_plan_X7_isWithin
set_option maxRecDepth 20000 in
theorem ggX7_plan_X4_entryAt : GoodIn wsX7_plan wsX4_entryAt := goodIn_r _ [16, 17, 18, 39, 40] (by decide +kernel) (by decide +kernel)
set_option maxRecDepth 20000 in
theorem gX7_plan_X4_entryAt : GoodIn wsX7_plan (wsV RX7 214 RX4 yX4_entryAt wsX4_entryAt) := goodIn_app (goodIn_of _ (by decide +kernel)) ggX7_plan_X4_entryAt
theorem dX7_plan_0 : decode cX7_plan 0 = .ok (.iload_n 1, 1) := by decide +kernel
theorem dX7_plan_1 : decode cX7_plan 1 = .ok (.ifCond .lt 12, 3) := by decide +kernel
theorem dX7_plan_4 : decode cX7_plan 4 = .ok (.iload_n 2, 1) := by decide +kernel
theorem dX7_plan_5 : decode cX7_plan 5 = .ok (.iconst 0, 1) := by decide +kernel
theorem dX7_plan_6 : decode cX7_plan 6 = .ok (.iconst 4, 1) := by decide +kernel
theorem dX7_plan_7 : decode cX7_plan 7 = .ok (.invokestatic 40, 3) := by decide +kernel
theorem dX7_plan_10 : decode cX7_plan 10 = .ok (.ifCond .ne 5, 3) := by decide +kernel
theorem dX7_plan_13 : decode cX7_plan 13 = .ok (.iconst (-1), 1) := by decide +kernel
theorem dX7_plan_14 : decode cX7_plan 14 = .ok (.ireturn, 1) := by decide +kernel
theorem dX7_plan_15 : decode cX7_plan 15 = .ok (.aload_n 0, 1) := by decide +kernel
theorem dX7_plan_16 : decode cX7_plan 16 = .ok (.getfield 10, 3) := by decide +kernel
theorem dX7_plan_19 : decode cX7_plan 19 = .ok (.getfield 132, 3) := by decide +kernel
theorem dX7_plan_22 : decode cX7_plan 22 = .ok (.iload_n 1, 1) := by decide +kernel
theorem dX7_plan_23 : decode cX7_plan 23 = .ok (.invokevirtual 214, 3) := by decide +kernel
theorem dX7_plan_26 : decode cX7_plan 26 = .ok (.astore_n 3, 1) := by decide +kernel
theorem dX7_plan_27 : decode cX7_plan 27 = .ok (.aload_n 3, 1) := by decide +kernel
theorem dX7_plan_28 : decode cX7_plan 28 = .ok (.ifnonnull 6, 3) := by decide +kernel
theorem dX7_plan_31 : decode cX7_plan 31 = .ok (.bipush (-4), 2) := by decide +kernel
theorem dX7_plan_33 : decode cX7_plan 33 = .ok (.ireturn, 1) := by decide +kernel
theorem dX7_plan_34 : decode cX7_plan 34 = .ok (.iload_n 2, 1) := by decide +kernel
theorem dX7_plan_35 : decode cX7_plan 35 = .ok (.tableswitch 57 0 3 #[29, 34, 47, 52], 29) := by decide +kernel
theorem dX7_plan_64 : decode cX7_plan 64 = .ok (.aload_n 3, 1) := by decide +kernel
theorem dX7_plan_65 : decode cX7_plan 65 = .ok (.getfield 221, 3) := by decide +kernel
theorem dX7_plan_68 : decode cX7_plan 68 = .ok (.ireturn, 1) := by decide +kernel
theorem dX7_plan_69 : decode cX7_plan 69 = .ok (.aload_n 3, 1) := by decide +kernel
theorem dX7_plan_70 : decode cX7_plan 70 = .ok (.getfield 224, 3) := by decide +kernel
theorem dX7_plan_73 : decode cX7_plan 73 = .ok (.ifCond .eq 7, 3) := by decide +kernel
theorem dX7_plan_76 : decode cX7_plan 76 = .ok (.iconst 0, 1) := by decide +kernel
theorem dX7_plan_77 : decode cX7_plan 77 = .ok (.goto 4, 3) := by decide +kernel
theorem dX7_plan_80 : decode cX7_plan 80 = .ok (.iconst 1, 1) := by decide +kernel
theorem dX7_plan_81 : decode cX7_plan 81 = .ok (.ireturn, 1) := by decide +kernel
theorem dX7_plan_82 : decode cX7_plan 82 = .ok (.aload_n 3, 1) := by decide +kernel
theorem dX7_plan_83 : decode cX7_plan 83 = .ok (.getfield 227, 3) := by decide +kernel
theorem dX7_plan_86 : decode cX7_plan 86 = .ok (.ireturn, 1) := by decide +kernel
theorem dX7_plan_87 : decode cX7_plan 87 = .ok (.aload_n 3, 1) := by decide +kernel
theorem dX7_plan_88 : decode cX7_plan 88 = .ok (.getfield 230, 3) := by decide +kernel
theorem dX7_plan_91 : decode cX7_plan 91 = .ok (.ireturn, 1) := by decide +kernel
theorem dX7_plan_92 : decode cX7_plan 92 = .ok (.aload_n 3, 1) := by decide +kernel
theorem dX7_plan_93 : decode cX7_plan 93 = .ok (.getfield 233, 3) := by decide +kernel
theorem dX7_plan_96 : decode cX7_plan 96 = .ok (.ireturn, 1) := by decide +kernel
set_option maxRecDepth 20000 in
theorem ggX7_pass_X7_isWithin : GoodIn wsX7_pass wsX7_isWithin := goodIn_r _ [7] (by decide +kernel) (by decide +kernel)
set_option maxRecDepth 20000 in
theorem gX7_pass_X7_isWithin : GoodIn wsX7_pass (va_wsS RX7 40 yX7_isWithin wsX7_isWithin) := goodIn_app (goodIn_of _ (by decide +kernel)) ggX7_pass_X7_isWithin
set_option maxRecDepth 20000 in
theorem ggX7_pass_X2_record : GoodIn wsX7_pass wsX2_record := goodIn_r _ [12, 13, 14, 15, 16, 17, 11, 18, 19, 20, 21, 22, 23, 24, 25, 26, 27, 28, 29, 30, 31, 32, 33, 34, 35, 36, 37, 38, 39, 40, 41, 42, 43, 44, 45, 46, 47, 48, 49, 50, 51, 52, 53, 54, 55, 56, 57, 58, 59, 60, 61, 62, 63, 64, 65, 66, 67, 68, 69, 70, 71, 72, 73, 74, 75, 76, 77, 78, 79, 80, 81, 82, 224, 225, 214, 215, 216, 217, 218, 219, 220, 221, 222, 223, 226, 227, 228, 229, 230, 231, 232, 233, 234, 235, 236, 237, 238, 239, 240, 241, 242, 243, 244, 245, 246, 247, 248, 249] (by decide +kernel) (by decide +kernel)
set_option maxRecDepth 20000 in
theorem gX7_pass_X2_record : GoodIn wsX7_pass (wsV RX7 48 RX2 yX2_record wsX2_record) := goodIn_app (goodIn_of _ (by decide +kernel)) ggX7_pass_X2_record
set_option maxRecDepth 20000 in
theorem ggX7_pass_X3_goOn : GoodIn wsX7_pass wsX3_goOn := goodIn_r _ [86, 32, 24, 34, 26, 87, 88, 89, 41, 90, 49, 45, 91, 92, 93, 94, 95, 96, 97, 22, 98, 99, 100, 101, 102, 103, 104, 69, 105, 71, 72, 106, 107, 108, 76, 109, 78, 79, 110, 111, 112, 113, 33, 25, 114, 115, 116, 54, 117, 61, 60, 118, 119, 120, 121, 122, 123, 37, 124, 125, 126, 127, 59, 57, 128, 129, 130, 131, 132, 133, 134, 135, 136, 137, 138, 139, 140, 141, 142, 143, 81, 144, 145, 146, 147, 148, 149, 150, 151, 152, 153, 154, 155, 156, 47, 157, 158, 159, 160, 161, 162, 163, 164, 165, 166, 167, 168, 169, 170, 171, 172, 173, 44, 174, 175, 46, 176, 177, 178, 179, 180, 181, 182, 183, 184, 185, 186, 187, 188, 189, 43, 190, 191, 192, 193, 194, 195, 196, 64, 65, 58, 197, 198, 199, 200, 201, 202, 203, 204, 35, 205, 206, 207, 208, 214, 215, 216, 217, 218, 219, 220, 221, 222, 223, 226, 227, 228, 229, 230, 231, 232, 243, 244, 245, 246, 247, 248, 249, 233, 234, 235, 236, 237, 238, 239, 240, 241, 242] (by decide +kernel) (by decide +kernel)
set_option maxRecDepth 20000 in
theorem gX7_pass_X3_goOn : GoodIn wsX7_pass (wsV RX7 236 RX3 yX3_goOn wsX3_goOn) := goodIn_app (goodIn_of _ (by decide +kernel)) ggX7_pass_X3_goOn
theorem dX7_pass_0 : decode cX7_pass 0 = .ok (.iload_n 1, 1) := by decide +kernel
theorem dX7_pass_1 : decode cX7_pass 1 = .ok (.iconst 1, 1) := by decide +kernel
theorem dX7_pass_2 : decode cX7_pass 2 = .ok (.bipush 50, 2) := by decide +kernel
theorem dX7_pass_4 : decode cX7_pass 4 = .ok (.invokestatic 40, 3) := by decide +kernel
theorem dX7_pass_7 : decode cX7_pass 7 = .ok (.ifCond .ne 5, 3) := by decide +kernel
theorem dX7_pass_10 : decode cX7_pass 10 = .ok (.iconst (-1), 1) := by decide +kernel
theorem dX7_pass_11 : decode cX7_pass 11 = .ok (.ireturn, 1) := by decide +kernel
theorem dX7_pass_12 : decode cX7_pass 12 = .ok (.aload_n 0, 1) := by decide +kernel
theorem dX7_pass_13 : decode cX7_pass 13 = .ok (.getfield 10, 3) := by decide +kernel
theorem dX7_pass_16 : decode cX7_pass 16 = .ok (.getfield 136, 3) := by decide +kernel
theorem dX7_pass_19 : decode cX7_pass 19 = .ok (.iload_n 1, 1) := by decide +kernel
theorem dX7_pass_20 : decode cX7_pass 20 = .ok (.iadd, 1) := by decide +kernel
theorem dX7_pass_21 : decode cX7_pass 21 = .ok (.sipush 5000, 3) := by decide +kernel
theorem dX7_pass_24 : decode cX7_pass 24 = .ok (.if_icmp .le 6, 3) := by decide +kernel
theorem dX7_pass_27 : decode cX7_pass 27 = .ok (.bipush (-3), 2) := by decide +kernel
theorem dX7_pass_29 : decode cX7_pass 29 = .ok (.ireturn, 1) := by decide +kernel
theorem dX7_pass_30 : decode cX7_pass 30 = .ok (.aload_n 0, 1) := by decide +kernel
theorem dX7_pass_31 : decode cX7_pass 31 = .ok (.getfield 22, 3) := by decide +kernel
theorem dX7_pass_34 : decode cX7_pass 34 = .ok (.aload_n 0, 1) := by decide +kernel
theorem dX7_pass_35 : decode cX7_pass 35 = .ok (.getfield 10, 3) := by decide +kernel
theorem dX7_pass_38 : decode cX7_pass 38 = .ok (.invokevirtual 48, 3) := by decide +kernel
theorem dX7_pass_41 : decode cX7_pass 41 = .ok (.iconst 0, 1) := by decide +kernel
theorem dX7_pass_42 : decode cX7_pass 42 = .ok (.istore_n 2, 1) := by decide +kernel
theorem dX7_pass_43 : decode cX7_pass 43 = .ok (.iload_n 2, 1) := by decide +kernel
theorem dX7_pass_44 : decode cX7_pass 44 = .ok (.iload_n 1, 1) := by decide +kernel
theorem dX7_pass_45 : decode cX7_pass 45 = .ok (.if_icmp .ge 16, 3) := by decide +kernel
theorem dX7_pass_48 : decode cX7_pass 48 = .ok (.aload_n 0, 1) := by decide +kernel
theorem dX7_pass_49 : decode cX7_pass 49 = .ok (.getfield 10, 3) := by decide +kernel
theorem dX7_pass_52 : decode cX7_pass 52 = .ok (.invokevirtual 236, 3) := by decide +kernel
theorem dX7_pass_55 : decode cX7_pass 55 = .ok (.iinc 2 1, 3) := by decide +kernel
theorem dX7_pass_58 : decode cX7_pass 58 = .ok (.goto (-15), 3) := by decide +kernel
theorem dX7_pass_61 : decode cX7_pass 61 = .ok (.aload_n 0, 1) := by decide +kernel
theorem dX7_pass_62 : decode cX7_pass 62 = .ok (.getfield 10, 3) := by decide +kernel
theorem dX7_pass_65 : decode cX7_pass 65 = .ok (.getfield 136, 3) := by decide +kernel
theorem dX7_pass_68 : decode cX7_pass 68 = .ok (.ireturn, 1) := by decide +kernel
theorem dX7_isWithin_0 : decode cX7_isWithin 0 = .ok (.iload_n 0, 1) := by decide +kernel
theorem dX7_isWithin_1 : decode cX7_isWithin 1 = .ok (.iload_n 1, 1) := by decide +kernel
theorem dX7_isWithin_2 : decode cX7_isWithin 2 = .ok (.if_icmp .lt 12, 3) := by decide +kernel
theorem dX7_isWithin_5 : decode cX7_isWithin 5 = .ok (.iload_n 0, 1) := by decide +kernel
theorem dX7_isWithin_6 : decode cX7_isWithin 6 = .ok (.iload_n 2, 1) := by decide +kernel
theorem dX7_isWithin_7 : decode cX7_isWithin 7 = .ok (.if_icmp .gt 7, 3) := by decide +kernel
theorem dX7_isWithin_10 : decode cX7_isWithin 10 = .ok (.iconst 1, 1) := by decide +kernel
theorem dX7_isWithin_11 : decode cX7_isWithin 11 = .ok (.goto 4, 3) := by decide +kernel
theorem dX7_isWithin_14 : decode cX7_isWithin 14 = .ok (.iconst 0, 1) := by decide +kernel
theorem dX7_isWithin_15 : decode cX7_isWithin 15 = .ok (.ireturn, 1) := by decide +kernel
theorem dX7_levelOf_0 : decode cX7_levelOf 0 = .ok (.iconst 0, 1) := by decide +kernel
theorem dX7_levelOf_1 : decode cX7_levelOf 1 = .ok (.istore_n 1, 1) := by decide +kernel
theorem dX7_levelOf_2 : decode cX7_levelOf 2 = .ok (.iconst 1, 1) := by decide +kernel
theorem dX7_levelOf_3 : decode cX7_levelOf 3 = .ok (.istore_n 2, 1) := by decide +kernel
theorem dX7_levelOf_4 : decode cX7_levelOf 4 = .ok (.iload_n 2, 1) := by decide +kernel
theorem dX7_levelOf_5 : decode cX7_levelOf 5 = .ok (.bipush 31, 2) := by decide +kernel
theorem dX7_levelOf_7 : decode cX7_levelOf 7 = .ok (.if_icmp .ge 17, 3) := by decide +kernel
theorem dX7_levelOf_10 : decode cX7_levelOf 10 = .ok (.iload_n 0, 1) := by decide +kernel
theorem dX7_levelOf_11 : decode cX7_levelOf 11 = .ok (.iload_n 2, 1) := by decide +kernel
theorem dX7_levelOf_12 : decode cX7_levelOf 12 = .ok (.ishr, 1) := by decide +kernel
theorem dX7_levelOf_13 : decode cX7_levelOf 13 = .ok (.ifCond .le 5, 3) := by decide +kernel
theorem dX7_levelOf_16 : decode cX7_levelOf 16 = .ok (.iload_n 2, 1) := by decide +kernel
theorem dX7_levelOf_17 : decode cX7_levelOf 17 = .ok (.istore_n 1, 1) := by decide +kernel
theorem dX7_levelOf_18 : decode cX7_levelOf 18 = .ok (.iinc 2 1, 3) := by decide +kernel
theorem dX7_levelOf_21 : decode cX7_levelOf 21 = .ok (.goto (-17), 3) := by decide +kernel
theorem dX7_levelOf_24 : decode cX7_levelOf 24 = .ok (.iload_n 1, 1) := by decide +kernel
theorem dX7_levelOf_25 : decode cX7_levelOf 25 = .ok (.ireturn, 1) := by decide +kernel
set_option maxRecDepth 20000 in
theorem ggX7_isRoomOrOutside_X3_roomAt : GoodIn wsX7_isRoomOrOutside wsX3_roomAt := goodIn_r _ [6, 7, 8, 14, 15, 16, 17, 18, 19, 20, 21, 22, 23] (by decide +kernel) (by decide +kernel)
set_option maxRecDepth 20000 in
theorem gX7_isRoomOrOutside_X3_roomAt : GoodIn wsX7_isRoomOrOutside (wsV RX7 56 RX3 yX3_roomAt wsX3_roomAt) := goodIn_app (goodIn_of _ (by decide +kernel)) ggX7_isRoomOrOutside_X3_roomAt
theorem dX7_isRoomOrOutside_0 : decode cX7_isRoomOrOutside 0 = .ok (.iload_n 1, 1) := by decide +kernel
theorem dX7_isRoomOrOutside_1 : decode cX7_isRoomOrOutside 1 = .ok (.bipush 8, 2) := by decide +kernel
theorem dX7_isRoomOrOutside_3 : decode cX7_isRoomOrOutside 3 = .ok (.if_icmp .eq 14, 3) := by decide +kernel
theorem dX7_isRoomOrOutside_6 : decode cX7_isRoomOrOutside 6 = .ok (.aload_n 0, 1) := by decide +kernel
theorem dX7_isRoomOrOutside_7 : decode cX7_isRoomOrOutside 7 = .ok (.getfield 10, 3) := by decide +kernel
theorem dX7_isRoomOrOutside_10 : decode cX7_isRoomOrOutside 10 = .ok (.iload_n 1, 1) := by decide +kernel
theorem dX7_isRoomOrOutside_11 : decode cX7_isRoomOrOutside 11 = .ok (.invokevirtual 56, 3) := by decide +kernel
theorem dX7_isRoomOrOutside_14 : decode cX7_isRoomOrOutside 14 = .ok (.ifnull 7, 3) := by decide +kernel
theorem dX7_isRoomOrOutside_17 : decode cX7_isRoomOrOutside 17 = .ok (.iconst 1, 1) := by decide +kernel
theorem dX7_isRoomOrOutside_18 : decode cX7_isRoomOrOutside 18 = .ok (.goto 4, 3) := by decide +kernel
theorem dX7_isRoomOrOutside_21 : decode cX7_isRoomOrOutside 21 = .ok (.iconst 0, 1) := by decide +kernel
theorem dX7_isRoomOrOutside_22 : decode cX7_isRoomOrOutside 22 = .ok (.ireturn, 1) := by decide +kernel
theorem dJ9_floorMod_7cf53_0 : decode cJ9_floorMod_7cf53 0 = .ok (.iload_n 0, 1) := by decide +kernel
theorem dJ9_floorMod_7cf53_1 : decode cJ9_floorMod_7cf53 1 = .ok (.iload_n 1, 1) := by decide +kernel
theorem dJ9_floorMod_7cf53_2 : decode cJ9_floorMod_7cf53 2 = .ok (.irem, 1) := by decide +kernel
theorem dJ9_floorMod_7cf53_3 : decode cJ9_floorMod_7cf53 3 = .ok (.istore_n 2, 1) := by decide +kernel
theorem dJ9_floorMod_7cf53_4 : decode cJ9_floorMod_7cf53 4 = .ok (.iload_n 0, 1) := by decide +kernel
theorem dJ9_floorMod_7cf53_5 : decode cJ9_floorMod_7cf53 5 = .ok (.iload_n 1, 1) := by decide +kernel
theorem dJ9_floorMod_7cf53_6 : decode cJ9_floorMod_7cf53 6 = .ok (.ixor, 1) := by decide +kernel
theorem dJ9_floorMod_7cf53_7 : decode cJ9_floorMod_7cf53 7 = .ok (.ifCond .ge 11, 3) := by decide +kernel
theorem dJ9_floorMod_7cf53_10 : decode cJ9_floorMod_7cf53 10 = .ok (.iload_n 2, 1) := by decide +kernel
theorem dJ9_floorMod_7cf53_11 : decode cJ9_floorMod_7cf53 11 = .ok (.ifCond .eq 7, 3) := by decide +kernel
theorem dJ9_floorMod_7cf53_14 : decode cJ9_floorMod_7cf53 14 = .ok (.iload_n 2, 1) := by decide +kernel
theorem dJ9_floorMod_7cf53_15 : decode cJ9_floorMod_7cf53 15 = .ok (.iload_n 1, 1) := by decide +kernel
theorem dJ9_floorMod_7cf53_16 : decode cJ9_floorMod_7cf53 16 = .ok (.iadd, 1) := by decide +kernel
theorem dJ9_floorMod_7cf53_17 : decode cJ9_floorMod_7cf53 17 = .ok (.ireturn, 1) := by decide +kernel
theorem dJ9_floorMod_7cf53_18 : decode cJ9_floorMod_7cf53 18 = .ok (.iload_n 2, 1) := by decide +kernel
theorem dJ9_floorMod_7cf53_19 : decode cJ9_floorMod_7cf53 19 = .ok (.ireturn, 1) := by decide +kernel
theorem dJ9_abs_0f7a4_0 : decode cJ9_abs_0f7a4 0 = .ok (.iload_n 0, 1) := by decide +kernel
theorem dJ9_abs_0f7a4_1 : decode cJ9_abs_0f7a4 1 = .ok (.ifCond .ge 8, 3) := by decide +kernel
theorem dJ9_abs_0f7a4_4 : decode cJ9_abs_0f7a4 4 = .ok (.iload_n 0, 1) := by decide +kernel
theorem dJ9_abs_0f7a4_5 : decode cJ9_abs_0f7a4 5 = .ok (.ineg, 1) := by decide +kernel
theorem dJ9_abs_0f7a4_6 : decode cJ9_abs_0f7a4 6 = .ok (.goto 4, 3) := by decide +kernel
theorem dJ9_abs_0f7a4_9 : decode cJ9_abs_0f7a4 9 = .ok (.iload_n 0, 1) := by decide +kernel
theorem dJ9_abs_0f7a4_10 : decode cJ9_abs_0f7a4 10 = .ok (.ireturn, 1) := by decide +kernel
theorem dJ9_max_7cf53_0 : decode cJ9_max_7cf53 0 = .ok (.iload_n 0, 1) := by decide +kernel
theorem dJ9_max_7cf53_1 : decode cJ9_max_7cf53 1 = .ok (.iload_n 1, 1) := by decide +kernel
theorem dJ9_max_7cf53_2 : decode cJ9_max_7cf53 2 = .ok (.if_icmp .lt 7, 3) := by decide +kernel
theorem dJ9_max_7cf53_5 : decode cJ9_max_7cf53 5 = .ok (.iload_n 0, 1) := by decide +kernel
theorem dJ9_max_7cf53_6 : decode cJ9_max_7cf53 6 = .ok (.goto 4, 3) := by decide +kernel
theorem dJ9_max_7cf53_9 : decode cJ9_max_7cf53 9 = .ok (.iload_n 1, 1) := by decide +kernel
theorem dJ9_max_7cf53_10 : decode cJ9_max_7cf53 10 = .ok (.ireturn, 1) := by decide +kernel
theorem dJ9_min_7cf53_0 : decode cJ9_min_7cf53 0 = .ok (.iload_n 0, 1) := by decide +kernel
theorem dJ9_min_7cf53_1 : decode cJ9_min_7cf53 1 = .ok (.iload_n 1, 1) := by decide +kernel
theorem dJ9_min_7cf53_2 : decode cJ9_min_7cf53 2 = .ok (.if_icmp .gt 7, 3) := by decide +kernel
theorem dJ9_min_7cf53_5 : decode cJ9_min_7cf53 5 = .ok (.iload_n 0, 1) := by decide +kernel
theorem dJ9_min_7cf53_6 : decode cJ9_min_7cf53 6 = .ok (.goto 4, 3) := by decide +kernel
theorem dJ9_min_7cf53_9 : decode cJ9_min_7cf53 9 = .ok (.iload_n 1, 1) := by decide +kernel
theorem dJ9_min_7cf53_10 : decode cJ9_min_7cf53 10 = .ok (.ireturn, 1) := by decide +kernel
abbrev vwCl : List vw_C := [(RX0, TX0, 10), (RX1, TX1, 5), (RX2, TX2, 2), (RX3, TX3, 10), (RX4, TX4, 2), (RX5, TX5, 7), (RX6, TX6, 6), (RX7, TX7, 5)]
