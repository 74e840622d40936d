set_option maxRecDepth 20000 in
theorem gX7_sound_X3_roomAt : GoodIn wsX7_sound (wsV RX7 56 RX3 yX3_roomAt wsX3_roomAt) := goodIn_app (goodIn_of _ (by decide +kernel)) ggX7_sound_X3_roomAt
set_option maxRecDepth 20000 in
theorem ggX7_sound_X7_isWithin : GoodIn wsX7_sound wsX7_isWithin := goodIn_r _ [20] (by decide +kernel) (by decide +kernel)
set_option maxRecDepth 20000 in
theorem gX7_sound_X7_isWithin : GoodIn wsX7_sound (va_wsS RX7 40 yX7_isWithin wsX7_isWithin) := goodIn_app (goodIn_of _ (by decide +kernel)) ggX7_sound_X7_isWithin
set_option maxRecDepth 20000 in
theorem ggX7_sound_X1_becomeSound : GoodIn wsX7_sound wsX1_becomeSound := goodIn_r _ [25, 26, 27, 28, 29, 30, 132, 133, 134, 135, 136] (by decide +kernel) (by decide +kernel)
set_option maxRecDepth 20000 in
theorem gX7_sound_X1_becomeSound : GoodIn wsX7_sound (wsV RX7 194 RX1 yX1_becomeSound wsX1_becomeSound) := goodIn_app (goodIn_of _ (by decide +kernel)) ggX7_sound_X1_becomeSound
set_option maxRecDepth 20000 in
theorem ggX7_sound_X4_isFull : GoodIn wsX7_sound wsX4_isFull := goodIn_r _ [35, 36, 37, 130, 131] (by decide +kernel) (by decide +kernel)
set_option maxRecDepth 20000 in
theorem gX7_sound_X4_isFull : GoodIn wsX7_sound (wsV RX7 198 RX4 yX4_isFull wsX4_isFull) := goodIn_app (goodIn_of _ (by decide +kernel)) ggX7_sound_X4_isFull
set_option maxRecDepth 20000 in
theorem ggX7_sound_X1_allEnergy : GoodIn wsX7_sound wsX1_allEnergy := goodIn_r _ [41, 26, 29, 30, 132, 133, 134, 135, 136] (by decide +kernel) (by decide +kernel)
set_option maxRecDepth 20000 in
theorem gX7_sound_X1_allEnergy : GoodIn wsX7_sound (wsV RX7 202 RX1 yX1_allEnergy wsX1_allEnergy) := goodIn_app (goodIn_of _ (by decide +kernel)) ggX7_sound_X1_allEnergy
set_option maxRecDepth 20000 in
theorem ggX7_sound_X2_record : GoodIn wsX7_sound wsX2_record := goodIn_r _ [46, 47, 48, 49, 50, 51, 45, 52, 53, 54, 55, 13, 56, 16, 57, 58, 59, 60, 61, 62, 63, 15, 64, 65, 66, 67, 68, 69, 70, 71, 72, 73, 74, 75, 76, 77, 78, 79, 80, 81, 82, 83, 84, 85, 86, 87, 88, 89, 90, 91, 92, 93, 94, 95, 96, 97, 98, 99, 34, 100, 36, 37, 101, 102, 103, 24, 104, 26, 28, 27, 29, 30, 137, 138, 120, 121, 122, 123, 124, 125, 126, 127, 128, 129, 139, 140, 141, 142, 143, 144, 145, 146, 147, 148, 149, 150, 151, 152, 153, 154, 155, 130, 131, 132, 133, 134, 135, 136] (by decide +kernel) (by decide +kernel)
set_option maxRecDepth 20000 in
theorem gX7_sound_X2_record : GoodIn wsX7_sound (wsV RX7 48 RX2 yX2_record wsX2_record) := goodIn_app (goodIn_of _ (by decide +kernel)) ggX7_sound_X2_record
set_option maxRecDepth 20000 in
theorem ggX7_sound_X3_take : GoodIn wsX7_sound wsX3_take := goodIn_r _ [108, 58, 67, 109, 110, 111, 34, 112, 36, 37, 113, 101, 102, 103, 24, 104, 26, 28, 27, 29, 30, 114, 39, 40, 41, 120, 121, 122, 123, 124, 125, 126, 127, 128, 129, 130, 131, 132, 133, 134, 135, 136] (by decide +kernel) (by decide +kernel)
set_option maxRecDepth 20000 in
theorem gX7_sound_X3_take : GoodIn wsX7_sound (wsV RX7 206 RX3 yX3_take wsX3_take) := goodIn_app (goodIn_of _ (by decide +kernel)) ggX7_sound_X3_take
theorem dX7_sound_0 : decode cX7_sound 0 = .ok (.aload_n 0, 1) := by decide +kernel
theorem dX7_sound_1 : decode cX7_sound 1 = .ok (.getfield 10, 3) := by decide +kernel
theorem dX7_sound_4 : decode cX7_sound 4 = .ok (.iload_n 1, 1) := by decide +kernel
theorem dX7_sound_5 : decode cX7_sound 5 = .ok (.invokevirtual 56, 3) := by decide +kernel
theorem dX7_sound_8 : decode cX7_sound 8 = .ok (.ifnull 35, 3) := by decide +kernel
theorem dX7_sound_11 : decode cX7_sound 11 = .ok (.iload_n 2, 1) := by decide +kernel
theorem dX7_sound_12 : decode cX7_sound 12 = .ok (.iconst 0, 1) := by decide +kernel
theorem dX7_sound_13 : decode cX7_sound 13 = .ok (.sipush 5000, 3) := by decide +kernel
theorem dX7_sound_16 : decode cX7_sound 16 = .ok (.invokestatic 40, 3) := by decide +kernel
theorem dX7_sound_19 : decode cX7_sound 19 = .ok (.ifCond .eq 24, 3) := by decide +kernel
theorem dX7_sound_22 : decode cX7_sound 22 = .ok (.iload_n 3, 1) := by decide +kernel
theorem dX7_sound_23 : decode cX7_sound 23 = .ok (.iconst 1, 1) := by decide +kernel
theorem dX7_sound_24 : decode cX7_sound 24 = .ok (.bipush 20, 2) := by decide +kernel
theorem dX7_sound_26 : decode cX7_sound 26 = .ok (.invokestatic 40, 3) := by decide +kernel
theorem dX7_sound_29 : decode cX7_sound 29 = .ok (.ifCond .eq 14, 3) := by decide +kernel
theorem dX7_sound_32 : decode cX7_sound 32 = .ok (.iload 4, 2) := by decide +kernel
theorem dX7_sound_34 : decode cX7_sound 34 = .ok (.iconst 1, 1) := by decide +kernel
theorem dX7_sound_35 : decode cX7_sound 35 = .ok (.ldc 99, 2) := by decide +kernel
theorem dX7_sound_37 : decode cX7_sound 37 = .ok (.invokestatic 40, 3) := by decide +kernel
theorem dX7_sound_40 : decode cX7_sound 40 = .ok (.ifCond .ne 5, 3) := by decide +kernel
theorem dX7_sound_43 : decode cX7_sound 43 = .ok (.iconst (-1), 1) := by decide +kernel
theorem dX7_sound_44 : decode cX7_sound 44 = .ok (.ireturn, 1) := by decide +kernel
theorem dX7_sound_45 : decode cX7_sound 45 = .ok (.iload_n 2, 1) := by decide +kernel
theorem dX7_sound_46 : decode cX7_sound 46 = .ok (.aload_n 0, 1) := by decide +kernel
theorem dX7_sound_47 : decode cX7_sound 47 = .ok (.getfield 10, 3) := by decide +kernel
theorem dX7_sound_50 : decode cX7_sound 50 = .ok (.getfield 136, 3) := by decide +kernel
theorem dX7_sound_53 : decode cX7_sound 53 = .ok (.if_icmp .ge 6, 3) := by decide +kernel
theorem dX7_sound_56 : decode cX7_sound 56 = .ok (.bipush (-2), 2) := by decide +kernel
theorem dX7_sound_58 : decode cX7_sound 58 = .ok (.ireturn, 1) := by decide +kernel
theorem dX7_sound_59 : decode cX7_sound 59 = .ok (.aload_n 0, 1) := by decide +kernel
theorem dX7_sound_60 : decode cX7_sound 60 = .ok (.getfield 36, 3) := by decide +kernel
theorem dX7_sound_63 : decode cX7_sound 63 = .ok (.iload_n 1, 1) := by decide +kernel
theorem dX7_sound_64 : decode cX7_sound 64 = .ok (.iload_n 2, 1) := by decide +kernel
theorem dX7_sound_65 : decode cX7_sound 65 = .ok (.iload_n 3, 1) := by decide +kernel
theorem dX7_sound_66 : decode cX7_sound 66 = .ok (.iload 4, 2) := by decide +kernel
theorem dX7_sound_68 : decode cX7_sound 68 = .ok (.invokevirtual 194, 3) := by decide +kernel
theorem dX7_sound_71 : decode cX7_sound 71 = .ok (.aload_n 0, 1) := by decide +kernel
theorem dX7_sound_72 : decode cX7_sound 72 = .ok (.getfield 10, 3) := by decide +kernel
theorem dX7_sound_75 : decode cX7_sound 75 = .ok (.getfield 132, 3) := by decide +kernel
theorem dX7_sound_78 : decode cX7_sound 78 = .ok (.invokevirtual 198, 3) := by decide +kernel
theorem dX7_sound_81 : decode cX7_sound 81 = .ok (.ifCond .ne 23, 3) := by decide +kernel
theorem dX7_sound_84 : decode cX7_sound 84 = .ok (.aload_n 0, 1) := by decide +kernel
theorem dX7_sound_85 : decode cX7_sound 85 = .ok (.getfield 10, 3) := by decide +kernel
theorem dX7_sound_88 : decode cX7_sound 88 = .ok (.getfield 181, 3) := by decide +kernel
theorem dX7_sound_91 : decode cX7_sound 91 = .ok (.aload_n 0, 1) := by decide +kernel
theorem dX7_sound_92 : decode cX7_sound 92 = .ok (.getfield 36, 3) := by decide +kernel
theorem dX7_sound_95 : decode cX7_sound 95 = .ok (.invokevirtual 202, 3) := by decide +kernel
theorem dX7_sound_98 : decode cX7_sound 98 = .ok (.iadd, 1) := by decide +kernel
theorem dX7_sound_99 : decode cX7_sound 99 = .ok (.ldc 205, 2) := by decide +kernel
theorem dX7_sound_101 : decode cX7_sound 101 = .ok (.if_icmp .le 6, 3) := by decide +kernel
theorem dX7_sound_104 : decode cX7_sound 104 = .ok (.bipush (-3), 2) := by decide +kernel
theorem dX7_sound_106 : decode cX7_sound 106 = .ok (.ireturn, 1) := by decide +kernel
theorem dX7_sound_107 : decode cX7_sound 107 = .ok (.aload_n 0, 1) := by decide +kernel
theorem dX7_sound_108 : decode cX7_sound 108 = .ok (.getfield 22, 3) := by decide +kernel
theorem dX7_sound_111 : decode cX7_sound 111 = .ok (.aload_n 0, 1) := by decide +kernel
theorem dX7_sound_112 : decode cX7_sound 112 = .ok (.getfield 10, 3) := by decide +kernel
theorem dX7_sound_115 : decode cX7_sound 115 = .ok (.invokevirtual 48, 3) := by decide +kernel
theorem dX7_sound_118 : decode cX7_sound 118 = .ok (.aload_n 0, 1) := by decide +kernel
theorem dX7_sound_119 : decode cX7_sound 119 = .ok (.getfield 10, 3) := by decide +kernel
theorem dX7_sound_122 : decode cX7_sound 122 = .ok (.aload_n 0, 1) := by decide +kernel
theorem dX7_sound_123 : decode cX7_sound 123 = .ok (.getfield 36, 3) := by decide +kernel
theorem dX7_sound_126 : decode cX7_sound 126 = .ok (.invokevirtual 206, 3) := by decide +kernel
theorem dX7_sound_129 : decode cX7_sound 129 = .ok (.aload_n 0, 1) := by decide +kernel
theorem dX7_sound_130 : decode cX7_sound 130 = .ok (.getfield 10, 3) := by decide +kernel
theorem dX7_sound_133 : decode cX7_sound 133 = .ok (.getfield 132, 3) := by decide +kernel
theorem dX7_sound_136 : decode cX7_sound 136 = .ok (.getfield 165, 3) := by decide +kernel
theorem dX7_sound_139 : decode cX7_sound 139 = .ok (.ireturn, 1) := by decide +kernel
set_option maxRecDepth 20000 in
theorem ggX7_planDoor_X3_doorAt : GoodIn wsX7_planDoor wsX3_doorAt := goodIn_r _ [11, 12, 13, 116, 117, 118, 119, 120, 121, 122, 123, 124, 125] (by decide +kernel) (by decide +kernel)
set_option maxRecDepth 20000 in
theorem gX7_planDoor_X3_doorAt : GoodIn wsX7_planDoor (wsV RX7 75 RX3 yX3_doorAt wsX3_doorAt) := goodIn_app (goodIn_of _ (by decide +kernel)) ggX7_planDoor_X3_doorAt
set_option maxRecDepth 20000 in
theorem ggX7_planDoor_X7_isWithin : GoodIn wsX7_planDoor wsX7_isWithin := goodIn_r _ [17] (by decide +kernel) (by decide +kernel)
set_option maxRecDepth 20000 in
theorem gX7_planDoor_X7_isWithin : GoodIn wsX7_planDoor (va_wsS RX7 40 yX7_isWithin wsX7_isWithin) := goodIn_app (goodIn_of _ (by decide +kernel)) ggX7_planDoor_X7_isWithin
set_option maxRecDepth 20000 in
theorem ggX7_planDoor_X4_isFull : GoodIn wsX7_planDoor wsX4_isFull := goodIn_r _ [22, 23, 24, 126, 127] (by decide +kernel) (by decide +kernel)
set_option maxRecDepth 20000 in
theorem gX7_planDoor_X4_isFull : GoodIn wsX7_planDoor (wsV RX7 198 RX4 yX4_isFull wsX4_isFull) := goodIn_app (goodIn_of _ (by decide +kernel)) ggX7_planDoor_X4_isFull
set_option maxRecDepth 20000 in
theorem ggX7_planDoor_X2_record : GoodIn wsX7_planDoor wsX2_record := goodIn_r _ [29, 30, 31, 32, 33, 34, 28, 35, 36, 37, 38, 10, 39, 40, 13, 41, 42, 43, 44, 45, 46, 47, 12, 48, 49, 50, 51, 52, 53, 54, 55, 56, 57, 58, 59, 60, 61, 62, 63, 64, 65, 66, 67, 68, 69, 70, 71, 72, 73, 74, 75, 76, 77, 78, 79, 80, 81, 82, 21, 83, 23, 24, 84, 85, 86, 87, 88, 89, 90, 91, 92, 93, 128, 129, 116, 117, 118, 119, 120, 121, 122, 123, 124, 125, 130, 131, 132, 133, 134, 135, 136, 137, 138, 139, 140, 141, 142, 143, 144, 145, 146, 126, 127, 147, 148, 149, 150, 151] (by decide +kernel) (by decide +kernel)
set_option maxRecDepth 20000 in
theorem gX7_planDoor_X2_record : GoodIn wsX7_planDoor (wsV RX7 48 RX2 yX2_record wsX2_record) := goodIn_app (goodIn_of _ (by decide +kernel)) ggX7_planDoor_X2_record
set_option maxRecDepth 20000 in
theorem ggX7_planDoor_X1_becomeTarget : GoodIn wsX7_planDoor wsX1_becomeTarget := goodIn_r _ [97, 89, 91, 90, 92, 93, 147, 148, 149, 150, 151] (by decide +kernel) (by decide +kernel)
set_option maxRecDepth 20000 in
theorem gX7_planDoor_X1_becomeTarget : GoodIn wsX7_planDoor (wsV RX7 210 RX1 yX1_becomeTarget wsX1_becomeTarget) := goodIn_app (goodIn_of _ (by decide +kernel)) ggX7_planDoor_X1_becomeTarget
set_option maxRecDepth 20000 in
theorem ggX7_planDoor_X3_take : GoodIn wsX7_planDoor wsX3_take := goodIn_r _ [101, 41, 50, 102, 103, 104, 21, 105, 23, 24, 106, 84, 85, 86, 87, 88, 89, 90, 91, 92, 93, 107, 108, 109, 110, 116, 117, 118, 119, 120, 121, 122, 123, 124, 125, 126, 127, 147, 148, 149, 150, 151] (by decide +kernel) (by decide +kernel)
set_option maxRecDepth 20000 in
theorem gX7_planDoor_X3_take : GoodIn wsX7_planDoor (wsV RX7 206 RX3 yX3_take wsX3_take) := goodIn_app (goodIn_of _ (by decide +kernel)) ggX7_planDoor_X3_take
theorem dX7_planDoor_0 : decode cX7_planDoor 0 = .ok (.aload_n 0, 1) := by decide +kernel
theorem dX7_planDoor_1 : decode cX7_planDoor 1 = .ok (.getfield 10, 3) := by decide +kernel
theorem dX7_planDoor_4 : decode cX7_planDoor 4 = .ok (.iload_n 1, 1) := by decide +kernel
theorem dX7_planDoor_5 : decode cX7_planDoor 5 = .ok (.invokevirtual 75, 3) := by decide +kernel
theorem dX7_planDoor_8 : decode cX7_planDoor 8 = .ok (.ifnull 24, 3) := by decide +kernel
theorem dX7_planDoor_11 : decode cX7_planDoor 11 = .ok (.iload_n 2, 1) := by decide +kernel
theorem dX7_planDoor_12 : decode cX7_planDoor 12 = .ok (.iconst 0, 1) := by decide +kernel
theorem dX7_planDoor_13 : decode cX7_planDoor 13 = .ok (.sipush 5000, 3) := by decide +kernel
theorem dX7_planDoor_16 : decode cX7_planDoor 16 = .ok (.invokestatic 40, 3) := by decide +kernel
theorem dX7_planDoor_19 : decode cX7_planDoor 19 = .ok (.ifCond .eq 13, 3) := by decide +kernel
theorem dX7_planDoor_22 : decode cX7_planDoor 22 = .ok (.iload_n 3, 1) := by decide +kernel
theorem dX7_planDoor_23 : decode cX7_planDoor 23 = .ok (.iconst 0, 1) := by decide +kernel
theorem dX7_planDoor_24 : decode cX7_planDoor 24 = .ok (.bipush 10, 2) := by decide +kernel
theorem dX7_planDoor_26 : decode cX7_planDoor 26 = .ok (.invokestatic 40, 3) := by decide +kernel
theorem dX7_planDoor_29 : decode cX7_planDoor 29 = .ok (.ifCond .ne 5, 3) := by decide +kernel
theorem dX7_planDoor_32 : decode cX7_planDoor 32 = .ok (.iconst (-1), 1) := by decide +kernel
theorem dX7_planDoor_33 : decode cX7_planDoor 33 = .ok (.ireturn, 1) := by decide +kernel
theorem dX7_planDoor_34 : decode cX7_planDoor 34 = .ok (.iload_n 2, 1) := by decide +kernel
theorem dX7_planDoor_35 : decode cX7_planDoor 35 = .ok (.aload_n 0, 1) := by decide +kernel
theorem dX7_planDoor_36 : decode cX7_planDoor 36 = .ok (.getfield 10, 3) := by decide +kernel
theorem dX7_planDoor_39 : decode cX7_planDoor 39 = .ok (.getfield 136, 3) := by decide +kernel
theorem dX7_planDoor_42 : decode cX7_planDoor 42 = .ok (.if_icmp .ge 6, 3) := by decide +kernel
theorem dX7_planDoor_45 : decode cX7_planDoor 45 = .ok (.bipush (-2), 2) := by decide +kernel
theorem dX7_planDoor_47 : decode cX7_planDoor 47 = .ok (.ireturn, 1) := by decide +kernel
theorem dX7_planDoor_48 : decode cX7_planDoor 48 = .ok (.aload_n 0, 1) := by decide +kernel
theorem dX7_planDoor_49 : decode cX7_planDoor 49 = .ok (.getfield 10, 3) := by decide +kernel
theorem dX7_planDoor_52 : decode cX7_planDoor 52 = .ok (.getfield 132, 3) := by decide +kernel
theorem dX7_planDoor_55 : decode cX7_planDoor 55 = .ok (.invokevirtual 198, 3) := by decide +kernel
theorem dX7_planDoor_58 : decode cX7_planDoor 58 = .ok (.ifCond .eq 6, 3) := by decide +kernel
theorem dX7_planDoor_61 : decode cX7_planDoor 61 = .ok (.bipush (-3), 2) := by decide +kernel
theorem dX7_planDoor_63 : decode cX7_planDoor 63 = .ok (.ireturn, 1) := by decide +kernel
theorem dX7_planDoor_64 : decode cX7_planDoor 64 = .ok (.aload_n 0, 1) := by decide +kernel
theorem dX7_planDoor_65 : decode cX7_planDoor 65 = .ok (.getfield 22, 3) := by decide +kernel
theorem dX7_planDoor_68 : decode cX7_planDoor 68 = .ok (.aload_n 0, 1) := by decide +kernel
theorem dX7_planDoor_69 : decode cX7_planDoor 69 = .ok (.getfield 10, 3) := by decide +kernel
theorem dX7_planDoor_72 : decode cX7_planDoor 72 = .ok (.invokevirtual 48, 3) := by decide +kernel
theorem dX7_planDoor_75 : decode cX7_planDoor 75 = .ok (.aload_n 0, 1) := by decide +kernel
theorem dX7_planDoor_76 : decode cX7_planDoor 76 = .ok (.getfield 36, 3) := by decide +kernel
theorem dX7_planDoor_79 : decode cX7_planDoor 79 = .ok (.iload_n 1, 1) := by decide +kernel
theorem dX7_planDoor_80 : decode cX7_planDoor 80 = .ok (.iload_n 2, 1) := by decide +kernel
theorem dX7_planDoor_81 : decode cX7_planDoor 81 = .ok (.iload_n 3, 1) := by decide +kernel
theorem dX7_planDoor_82 : decode cX7_planDoor 82 = .ok (.invokevirtual 210, 3) := by decide +kernel
theorem dX7_planDoor_85 : decode cX7_planDoor 85 = .ok (.aload_n 0, 1) := by decide +kernel
theorem dX7_planDoor_86 : decode cX7_planDoor 86 = .ok (.getfield 10, 3) := by decide +kernel
theorem dX7_planDoor_89 : decode cX7_planDoor 89 = .ok (.aload_n 0, 1) := by decide +kernel
theorem dX7_planDoor_90 : decode cX7_planDoor 90 = .ok (.getfield 36, 3) := by decide +kernel
theorem dX7_planDoor_93 : decode cX7_planDoor 93 = .ok (.invokevirtual 206, 3) := by decide +kernel
theorem dX7_planDoor_96 : decode cX7_planDoor 96 = .ok (.aload_n 0, 1) := by decide +kernel
theorem dX7_planDoor_97 : decode cX7_planDoor 97 = .ok (.getfield 10, 3) := by decide +kernel
theorem dX7_planDoor_100 : decode cX7_planDoor 100 = .ok (.getfield 132, 3) := by decide +kernel
theorem dX7_planDoor_103 : decode cX7_planDoor 103 = .ok (.getfield 165, 3) := by decide +kernel
theorem dX7_planDoor_106 : decode cX7_planDoor 106 = .ok (.ireturn, 1) := by decide +kernel
set_option maxRecDepth 20000 in
theorem ggX7_cancel_X4_entryAt : GoodIn wsX7_cancel wsX4_entryAt := goodIn_r _ [9, 10, 11, 104, 105] (by decide +kernel) (by decide +kernel)
set_option maxRecDepth 20000 in
theorem gX7_cancel_X4_entryAt : GoodIn wsX7_cancel (wsV RX7 214 RX4 yX4_entryAt wsX4_entryAt) := goodIn_app (goodIn_of _ (by decide +kernel)) ggX7_cancel_X4_entryAt
set_option maxRecDepth 20000 in
theorem ggX7_cancel_X2_record : GoodIn wsX7_cancel wsX2_record := goodIn_r _ [16, 17, 18, 19, 20, 21, 15, 22, 23, 24, 25, 26, 27, 28, 29, 30, 31, 32, 33, 34, 35, 36, 37, 38, 39, 40, 41, 42, 43, 44, 45, 46, 47, 48, 49, 50, 51, 52, 53, 54, 55, 56, 57, 58, 59, 60, 61, 62, 63, 64, 65, 66, 67, 68, 69, 70, 71, 72, 8, 73, 10, 11, 74, 75, 76, 77, 78, 79, 80, 81, 82, 83, 106, 107, 94, 95, 96, 97, 98, 99, 100, 101, 102, 103, 108, 109, 110, 111, 112, 113, 114, 115, 116, 117, 118, 119, 120, 121, 122, 123, 124, 104, 105, 125, 126, 127, 128, 129] (by decide +kernel) (by decide +kernel)
set_option maxRecDepth 20000 in
theorem gX7_cancel_X2_record : GoodIn wsX7_cancel (wsV RX7 48 RX2 yX2_record wsX2_record) := goodIn_app (goodIn_of _ (by decide +kernel)) ggX7_cancel_X2_record
set_option maxRecDepth 20000 in
theorem ggX7_cancel_X4_drop : GoodIn wsX7_cancel wsX4_drop := goodIn_r _ [87, 11, 10, 88, 6, 7, 8, 9, 104, 105] (by decide +kernel) (by decide +kernel)
set_option maxRecDepth 20000 in
theorem gX7_cancel_X4_drop : GoodIn wsX7_cancel (wsV RX7 218 RX4 yX4_drop wsX4_drop) := goodIn_app (goodIn_of _ (by decide +kernel)) ggX7_cancel_X4_drop
theorem dX7_cancel_0 : decode cX7_cancel 0 = .ok (.aload_n 0, 1) := by decide +kernel
theorem dX7_cancel_1 : decode cX7_cancel 1 = .ok (.getfield 10, 3) := by decide +kernel
theorem dX7_cancel_4 : decode cX7_cancel 4 = .ok (.getfield 132, 3) := by decide +kernel
theorem dX7_cancel_7 : decode cX7_cancel 7 = .ok (.iload_n 1, 1) := by decide +kernel
theorem dX7_cancel_8 : decode cX7_cancel 8 = .ok (.invokevirtual 214, 3) := by decide +kernel
theorem dX7_cancel_11 : decode cX7_cancel 11 = .ok (.ifnonnull 5, 3) := by decide +kernel
theorem dX7_cancel_14 : decode cX7_cancel 14 = .ok (.iconst (-1), 1) := by decide +kernel
theorem dX7_cancel_15 : decode cX7_cancel 15 = .ok (.ireturn, 1) := by decide +kernel
theorem dX7_cancel_16 : decode cX7_cancel 16 = .ok (.aload_n 0, 1) := by decide +kernel
theorem dX7_cancel_17 : decode cX7_cancel 17 = .ok (.getfield 22, 3) := by decide +kernel
theorem dX7_cancel_20 : decode cX7_cancel 20 = .ok (.aload_n 0, 1) := by decide +kernel
theorem dX7_cancel_21 : decode cX7_cancel 21 = .ok (.getfield 10, 3) := by decide +kernel
theorem dX7_cancel_24 : decode cX7_cancel 24 = .ok (.invokevirtual 48, 3) := by decide +kernel
theorem dX7_cancel_27 : decode cX7_cancel 27 = .ok (.aload_n 0, 1) := by decide +kernel
theorem dX7_cancel_28 : decode cX7_cancel 28 = .ok (.getfield 10, 3) := by decide +kernel
theorem dX7_cancel_31 : decode cX7_cancel 31 = .ok (.getfield 132, 3) := by decide +kernel
theorem dX7_cancel_34 : decode cX7_cancel 34 = .ok (.iload_n 1, 1) := by decide +kernel
theorem dX7_cancel_35 : decode cX7_cancel 35 = .ok (.invokevirtual 218, 3) := by decide +kernel
theorem dX7_cancel_38 : decode cX7_cancel 38 = .ok (.aload_n 0, 1) := by decide +kernel
theorem dX7_cancel_39 : decode cX7_cancel 39 = .ok (.getfield 10, 3) := by decide +kernel
theorem dX7_cancel_42 : decode cX7_cancel 42 = .ok (.getfield 132, 3) := by decide +kernel
theorem dX7_cancel_45 : decode cX7_cancel 45 = .ok (.getfield 165, 3) := by decide +kernel
theorem dX7_cancel_48 : decode cX7_cancel 48 = .ok (.ireturn, 1) := by decide +kernel
set_option maxRecDepth 20000 in
theorem ggX7_plan_X7_isWithin : GoodIn wsX7_plan wsX7_isWithin := goodIn_r _ [11] (by decide +kernel) (by decide +kernel)
set_option maxRecDepth 20000 in
theorem gX7_plan_X7_isWithin : GoodIn wsX7_plan (va_wsS RX7 40 yX7_isWithin wsX7_isWithin) := goodIn_app (goodIn_of _ (by decide +kernel)) ggX7_plan_X7_isWithin
set_option maxRecDepth 20000 in
theorem ggX7_plan_X4_entryAt : GoodIn wsX7_plan wsX4_entryAt := goodIn_r _ [16, 17, 18, 39, 40] (by decide +kernel) (by decide +kernel)
set_option maxRecDepth 20000 in
theorem gX7_plan_X4_entryAt : GoodIn wsX7_plan (wsV RX7 214 RX4 yX4_entryAt wsX4_entryAt) := goodIn_app (goodIn_of _ (by decide +kernel)) ggX7_plan_X4_entryAt
theorem dX7_plan_0 : decode cX7_plan 0 = .ok (.iload_n 1, 1) := by decide +kernel
theorem dX7_plan_1 : decode cX7_plan 1 = .ok (.ifCond .lt 12, 3) := by decide +kernel
theorem dX7_plan_4 : decode cX7_plan 4 = .ok (.iload_n 2, 1) := by decide +kernel
theorem dX7_plan_5 : decode cX7_plan 5 = .ok (.iconst 0, 1) := by decide +kernel
theorem dX7_plan_6 : decode cX7_plan 6 = .ok (.iconst 4, 1) := by decide +kernel
theorem dX7_plan_7 : decode cX7_plan 7 = .ok (.invokestatic 40, 3) := by decide +kernel
theorem dX7_plan_10 : decode cX7_plan 10 = .ok (.ifCond .ne 5, 3) := by decide +kernel
theorem dX7_plan_13 : decode cX7_plan 13 = .ok (.iconst (-1), 1) := by decide +kernel
theorem dX7_plan_14 : decode cX7_plan 14 = .ok (.ireturn, 1) := by decide +kernel
theorem dX7_plan_15 : decode cX7_plan 15 = .ok (.aload_n 0, 1) := by decide +kernel
theorem dX7_plan_16 : decode cX7_plan 16 = .ok (.getfield 10, 3) := by decide +kernel
theorem dX7_plan_19 : decode cX7_plan 19 = .ok (.getfield 132, 3) := by decide +kernel
theorem dX7_plan_22 : decode cX7_plan 22 = .ok (.iload_n 1, 1) := by decide +kernel
theorem dX7_plan_23 : decode cX7_plan 23 = .ok (.invokevirtual 214, 3) := by decide +kernel
theorem dX7_plan_26 : decode cX7_plan 26 = .ok (.astore_n 3, 1) := by decide +kernel
theorem dX7_plan_27 : decode cX7_plan 27 = .ok (.aload_n 3, 1) := by decide +kernel
theorem dX7_plan_28 : decode cX7_plan 28 = .ok (.ifnonnull 6, 3) := by decide +kernel
theorem dX7_plan_31 : decode cX7_plan 31 = .ok (.bipush (-4), 2) := by decide +kernel
theorem dX7_plan_33 : decode cX7_plan 33 = .ok (.ireturn, 1) := by decide +kernel
theorem dX7_plan_34 : decode cX7_plan 34 = .ok (.iload_n 2, 1) := by decide +kernel
theorem dX7_plan_35 : decode cX7_plan 35 = .ok (.tableswitch 57 0 3 #[29, 34, 47, 52], 29) := by decide +kernel
theorem dX7_plan_64 : decode cX7_plan 64 = .ok (.aload_n 3, 1) := by decide +kernel
theorem dX7_plan_65 : decode cX7_plan 65 = .ok (.getfield 221, 3) := by decide +kernel
theorem dX7_plan_68 : decode cX7_plan 68 = .ok (.ireturn, 1) := by decide +kernel
theorem dX7_plan_69 : decode cX7_plan 69 = .ok (.aload_n 3, 1) := by decide +kernel
theorem dX7_plan_70 : decode cX7_plan 70 = .ok (.getfield 224, 3) := by decide +kernel
theorem dX7_plan_73 : decode cX7_plan 73 = .ok (.ifCond .eq 7, 3) := by decide +kernel
theorem dX7_plan_76 : decode cX7_plan 76 = .ok (.iconst 0, 1) := by decide +kernel
theorem dX7_plan_77 : decode cX7_plan 77 = .ok (.goto 4, 3) := by decide +kernel
theorem dX7_plan_80 : decode cX7_plan 80 = .ok (.iconst 1, 1) := by decide +kernel
theorem dX7_plan_81 : decode cX7_plan 81 = .ok (.ireturn, 1) := by decide +kernel
theorem dX7_plan_82 : decode cX7_plan 82 = .ok (.aload_n 3, 1) := by decide +kernel
theorem dX7_plan_83 : decode cX7_plan 83 = .ok (.getfield 227, 3) := by decide +kernel
theorem dX7_plan_86 : decode cX7_plan 86 = .ok (.ireturn, 1) := by decide +kernel
theorem dX7_plan_87 : decode cX7_plan 87 = .ok (.aload_n 3, 1) := by decide +kernel
theorem dX7_plan_88 : decode cX7_plan 88 = .ok (.getfield 230, 3) := by decide +kernel
theorem dX7_plan_91 : decode cX7_plan 91 = .ok (.ireturn, 1) := by decide +kernel
theorem dX7_plan_92 : decode cX7_plan 92 = .ok (.aload_n 3, 1) := by decide +kernel
theorem dX7_plan_93 : decode cX7_plan 93 = .ok (.getfield 233, 3) := by decide +kernel
theorem dX7_plan_96 : decode cX7_plan 96 = .ok (.ireturn, 1) := by decide +kernel
set_option maxRecDepth 20000 in
theorem ggX7_pass_X7_isWithin : GoodIn wsX7_pass wsX7_isWithin := goodIn_r _ [7] (by decide +kernel) (by decide +kernel)
set_option maxRecDepth 20000 in
theorem gX7_pass_X7_isWithin : GoodIn wsX7_pass (va_wsS RX7 40 yX7_isWithin wsX7_isWithin) := goodIn_app (goodIn_of _ (by decide +kernel)) ggX7_pass_X7_isWithin
set_option maxRecDepth 20000 in
theorem ggX7_pass_X2_record : GoodIn wsX7_pass wsX2_record := goodIn_r _ [12, 13, 14, 15, 16, 17, 11, 18, 19, 20, 21, 22, 23, 24, 25, 26, 27, 28, 29, 30, 31, 32, 33, 34, 35, 36, 37, 38, 39, 40, 41, 42, 43, 44, 45, 46, 47, 48, 49, 50, 51, 52, 53, 54, 55, 56, 57, 58, 59, 60, 61, 62, 63, 64, 65, 66, 67, 68, 69, 70, 71, 72, 73, 74, 75, 76, 77, 78, 79, 80, 81, 82, 224, 225, 214, 215, 216, 217, 218, 219, 220, 221, 222, 223, 226, 227, 228, 229, 230, 231, 232, 233, 234, 235, 236, 237, 238, 239, 240, 241, 242, 243, 244, 245, 246, 247, 248, 249] (by decide +kernel) (by decide +kernel)
set_option maxRecDepth 20000 in
theorem gX7_pass_X2_record : GoodIn wsX7_pass (wsV RX7 48 RX2 yX2_record wsX2_record) := goodIn_app (goodIn_of _ (by decide +kernel)) ggX7_pass_X2_record
set_option maxRecDepth 20000 in
theorem ggX7_pass_X3_goOn : GoodIn wsX7_pass wsX3_goOn := goodIn_r _ [86, 32, 24, 34, 26, 87, 88, 89, 41, 90, 49, 45, 91, 92, 93, 94, 95, 96, 97, 22, 98, 99, 100, 101, 102, 103, 104, 69, 105, 71, 72, 106, 107, 108, 76, 109, 78, 79, 110, 111, 112, 113, 33, 25, 114, 115, 116, 54, 117, 61, 60, 118, 119, 120, 121, 122, 123, 37, 124, 125, 126, 127, 59, 57, 128, 129, 130, 131, 132, 133, 134, 135, 136, 137, 138, 139, 140, 141, 142, 143, 81, 144, 145, 146, 147, 148, 149, 150, 151, 152, 153, 154, 155, 156, 47, 157, 158, 159, 160, 161, 162, 163, 164, 165, 166, 167, 168, 169, 170, 171, 172, 173, 44, 174, 175, 46, 176, 177, 178, 179, 180, 181, 182, 183, 184, 185, 186, 187, 188, 189, 43, 190, 191, 192, 193, 194, 195, 196, 64, 65, 58, 197, 198, 199, 200, 201, 202, 203, 204, 35, 205, 206, 207, 208, 214, 215, 216, 217, 218, 219, 220, 221, 222, 223, 226, 227, 228, 229, 230, 231, 232, 243, 244, 245, 246, 247, 248, 249, 233, 234, 235, 236, 237, 238, 239, 240, 241, 242] (by decide +kernel) (by decide +kernel)
set_option maxRecDepth 20000 in
theorem gX7_pass_X3_goOn : GoodIn wsX7_pass (wsV RX7 236 RX3 yX3_goOn wsX3_goOn) := goodIn_app (goodIn_of _ (by decide +kernel)) ggX7_pass_X3_goOn
theorem dX7_pass_0 : decode cX7_pass 0 = .ok (.iload_n 1, 1) := by decide +kernel
theorem dX7_pass_1 : decode cX7_pass 1 = .ok (.iconst 1, 1) := by decide +kernel
theorem dX7_pass_2 : decode cX7_pass 2 = .ok (.bipush 50, 2) := by decide +kernel
theorem dX7_pass_4 : decode cX7_pass 4 = .ok (.invokestatic 40, 3) := by decide +kernel
theorem dX7_pass_7 : decode cX7_pass 7 = .ok (.ifCond .ne 5, 3) := by decide +kernel
theorem dX7_pass_10 : decode cX7_pass 10 = .ok (.iconst (-1), 1) := by decide +kernel
theorem dX7_pass_11 : decode cX7_pass 11 = .ok (.ireturn, 1) := by decide +kernel
theorem dX7_pass_12 : decode cX7_pass 12 = .ok (.aload_n 0, 1) := by decide +kernel
theorem dX7_pass_13 : decode cX7_pass 13 = .ok (.getfield 10, 3) := by decide +kernel
theorem dX7_pass_16 : decode cX7_pass 16 = .ok (.getfield 136, 3) := by decide +kernel
theorem dX7_pass_19 : decode cX7_pass 19 = .ok (.iload_n 1, 1) := by decide +kernel
theorem dX7_pass_20 : decode cX7_pass 20 = .ok (.iadd, 1) := by decide +kernel
theorem dX7_pass_21 : decode cX7_pass 21 = .ok (.sipush 5000, 3) := by decide +kernel
theorem dX7_pass_24 : decode cX7_pass 24 = .ok (.if_icmp .le 6, 3) := by decide +kernel
theorem dX7_pass_27 : decode cX7_pass 27 = .ok (.bipush (-3), 2) := by decide +kernel
theorem dX7_pass_29 : decode cX7_pass 29 = .ok (.ireturn, 1) := by decide +kernel
theorem dX7_pass_30 : decode cX7_pass 30 = .ok (.aload_n 0, 1) := by decide +kernel
theorem dX7_pass_31 : decode cX7_pass 31 = .ok (.getfield 22, 3) := by decide +kernel
theorem dX7_pass_34 : decode cX7_pass 34 = .ok (.aload_n 0, 1) := by decide +kernel
theorem dX7_pass_35 : decode cX7_pass 35 = .ok (.getfield 10, 3) := by decide +kernel
theorem dX7_pass_38 : decode cX7_pass 38 = .ok (.invokevirtual 48, 3) := by decide +kernel
theorem dX7_pass_41 : decode cX7_pass 41 = .ok (.iconst 0, 1) := by decide +kernel
theorem dX7_pass_42 : decode cX7_pass 42 = .ok (.istore_n 2, 1) := by decide +kernel
theorem dX7_pass_43 : decode cX7_pass 43 = .ok (.iload_n 2, 1) := by decide +kernel
theorem dX7_pass_44 : decode cX7_pass 44 = .ok (.iload_n 1, 1) := by decide +kernel
theorem dX7_pass_45 : decode cX7_pass 45 = .ok (.if_icmp .ge 16, 3) := by decide +kernel
theorem dX7_pass_48 : decode cX7_pass 48 = .ok (.aload_n 0, 1) := by decide +kernel
theorem dX7_pass_49 : decode cX7_pass 49 = .ok (.getfield 10, 3) := by decide +kernel
theorem dX7_pass_52 : decode cX7_pass 52 = .ok (.invokevirtual 236, 3) := by decide +kernel
theorem dX7_pass_55 : decode cX7_pass 55 = .ok (.iinc 2 1, 3) := by decide +kernel
theorem dX7_pass_58 : decode cX7_pass 58 = .ok (.goto (-15), 3) := by decide +kernel
theorem dX7_pass_61 : decode cX7_pass 61 = .ok (.aload_n 0, 1) := by decide +kernel
theorem dX7_pass_62 : decode cX7_pass 62 = .ok (.getfield 10, 3) := by decide +kernel
theorem dX7_pass_65 : decode cX7_pass 65 = .ok (.getfield 136, 3) := by decide +kernel
theorem dX7_pass_68 : decode cX7_pass 68 = .ok (.ireturn, 1) := by decide +kernel
set_option maxRecDepth 20000 in
theorem ggX7_way_X3_roomAt : GoodIn wsX7_way wsX3_roomAt := goodIn_r _ [6, 7, 8, 26, 27, 28, 29, 30, 31, 32, 33, 34, 35] (by decide +kernel) (by decide +kernel)
set_option maxRecDepth 20000 in
theorem gX7_way_X3_roomAt : GoodIn wsX7_way (wsV RX7 56 RX3 yX3_roomAt wsX3_roomAt) := goodIn_app (goodIn_of _ (by decide +kernel)) ggX7_way_X3_roomAt
set_option maxRecDepth 20000 in
theorem ggX7_way_X7_isRoomOrOutside : GoodIn wsX7_way wsX7_isRoomOrOutside := goodIn_r _ [13, 1, 2, 3, 4, 5, 6, 7, 8, 21, 22, 23, 24, 25, 26, 27, 28, 29, 30, 31, 32, 33, 34, 35] (by decide +kernel) (by decide +kernel)
set_option maxRecDepth 20000 in
theorem gX7_way_X7_isRoomOrOutside : GoodIn wsX7_way (wsV RX7 60 RX7 yX7_isRoomOrOutside wsX7_isRoomOrOutside) := goodIn_app (goodIn_of _ (by decide +kernel)) ggX7_way_X7_isRoomOrOutside
set_option maxRecDepth 20000 in
theorem ggX7_way_X3_reachedThroughOneMoreDoor : GoodIn wsX7_way wsX3_reachedThroughOneMoreDoor := goodIn_r _ [17, 18, 19, 20, 26, 27, 28, 29, 30, 31, 32, 33, 34, 35, 36, 37, 38, 39, 40, 41, 42, 43, 44, 45] (by decide +kernel) (by decide +kernel)
set_option maxRecDepth 20000 in
theorem gX7_way_X3_reachedThroughOneMoreDoor : GoodIn wsX7_way (wsV RX7 239 RX3 yX3_reachedThroughOneMoreDoor wsX3_reachedThroughOneMoreDoor) := goodIn_app (goodIn_of _ (by decide +kernel)) ggX7_way_X3_reachedThroughOneMoreDoor
theorem dX7_way_0 : decode cX7_way 0 = .ok (.aload_n 0, 1) := by decide +kernel
theorem dX7_way_1 : decode cX7_way 1 = .ok (.getfield 10, 3) := by decide +kernel
theorem dX7_way_4 : decode cX7_way 4 = .ok (.iload_n 1, 1) := by decide +kernel
theorem dX7_way_5 : decode cX7_way 5 = .ok (.invokevirtual 56, 3) := by decide +kernel
theorem dX7_way_8 : decode cX7_way 8 = .ok (.ifnull 11, 3) := by decide +kernel
theorem dX7_way_11 : decode cX7_way 11 = .ok (.aload_n 0, 1) := by decide +kernel
theorem dX7_way_12 : decode cX7_way 12 = .ok (.iload_n 2, 1) := by decide +kernel
theorem dX7_way_13 : decode cX7_way 13 = .ok (.invokevirtual 60, 3) := by decide +kernel
theorem dX7_way_16 : decode cX7_way 16 = .ok (.ifCond .ne 5, 3) := by decide +kernel
theorem dX7_way_19 : decode cX7_way 19 = .ok (.iconst (-1), 1) := by decide +kernel
theorem dX7_way_20 : decode cX7_way 20 = .ok (.ireturn, 1) := by decide +kernel
theorem dX7_way_21 : decode cX7_way 21 = .ok (.iconst 1, 1) := by decide +kernel
theorem dX7_way_22 : decode cX7_way 22 = .ok (.iload_n 1, 1) := by decide +kernel
theorem dX7_way_23 : decode cX7_way 23 = .ok (.ishl, 1) := by decide +kernel
theorem dX7_way_24 : decode cX7_way 24 = .ok (.istore_n 3, 1) := by decide +kernel
theorem dX7_way_25 : decode cX7_way 25 = .ok (.iconst 0, 1) := by decide +kernel
theorem dX7_way_26 : decode cX7_way 26 = .ok (.istore 4, 2) := by decide +kernel
theorem dX7_way_28 : decode cX7_way 28 = .ok (.iload 4, 2) := by decide +kernel
theorem dX7_way_30 : decode cX7_way 30 = .ok (.bipush 8, 2) := by decide +kernel
theorem dX7_way_32 : decode cX7_way 32 = .ok (.if_icmp .gt 30, 3) := by decide +kernel
theorem dX7_way_35 : decode cX7_way 35 = .ok (.iload_n 3, 1) := by decide +kernel
theorem dX7_way_36 : decode cX7_way 36 = .ok (.iload_n 2, 1) := by decide +kernel
theorem dX7_way_37 : decode cX7_way 37 = .ok (.ishr, 1) := by decide +kernel
theorem dX7_way_38 : decode cX7_way 38 = .ok (.iconst 1, 1) := by decide +kernel
theorem dX7_way_39 : decode cX7_way 39 = .ok (.iand, 1) := by decide +kernel
theorem dX7_way_40 : decode cX7_way 40 = .ok (.iconst 1, 1) := by decide +kernel
theorem dX7_way_41 : decode cX7_way 41 = .ok (.if_icmp .ne 6, 3) := by decide +kernel
theorem dX7_way_44 : decode cX7_way 44 = .ok (.iload 4, 2) := by decide +kernel
theorem dX7_way_46 : decode cX7_way 46 = .ok (.ireturn, 1) := by decide +kernel
theorem dX7_way_47 : decode cX7_way 47 = .ok (.aload_n 0, 1) := by decide +kernel
theorem dX7_way_48 : decode cX7_way 48 = .ok (.getfield 10, 3) := by decide +kernel
theorem dX7_way_51 : decode cX7_way 51 = .ok (.iload_n 3, 1) := by decide +kernel
theorem dX7_way_52 : decode cX7_way 52 = .ok (.invokevirtual 239, 3) := by decide +kernel
theorem dX7_way_55 : decode cX7_way 55 = .ok (.istore_n 3, 1) := by decide +kernel
theorem dX7_way_56 : decode cX7_way 56 = .ok (.iinc 4 1, 3) := by decide +kernel
theorem dX7_way_59 : decode cX7_way 59 = .ok (.goto (-31), 3) := by decide +kernel
theorem dX7_way_62 : decode cX7_way 62 = .ok (.bipush (-4), 2) := by decide +kernel
theorem dX7_way_64 : decode cX7_way 64 = .ok (.ireturn, 1) := by decide +kernel
set_option maxRecDepth 20000 in
theorem ggX7_tail_X3_roomAt : GoodIn wsX7_tail wsX3_roomAt := goodIn_r _ [7, 8, 9, 226, 227, 228, 229, 230, 231, 232, 233, 234, 235] (by decide +kernel) (by decide +kernel)
set_option maxRecDepth 20000 in
theorem gX7_tail_X3_roomAt : GoodIn wsX7_tail (wsV RX7 56 RX3 yX3_roomAt wsX3_roomAt) := goodIn_app (goodIn_of _ (by decide +kernel)) ggX7_tail_X3_roomAt
set_option maxRecDepth 20000 in
theorem ggX7_tail_X7_lookAheadWithoutSounds : GoodIn wsX7_tail wsX7_lookAheadWithoutSounds := goodIn_r _ [14, 15, 1, 16, 17, 18, 19, 6, 20, 9, 21, 22, 23, 24, 25, 26, 27, 8, 28, 29, 30, 31, 32, 33, 34, 35, 36, 37, 38, 39, 40, 41, 42, 43, 44, 45, 46, 47, 48, 49, 50, 51, 52, 53, 54, 55, 56, 57, 58, 59, 60, 61, 62, 63, 64, 65, 66, 67, 68, 69, 70, 71, 72, 73, 74, 75, 76, 77, 78, 79, 80, 81, 82, 83, 84, 85, 86, 87, 88, 89, 90, 214, 215, 216, 217, 218, 226, 227, 228, 229, 230, 231, 232, 233, 234, 235, 219, 220, 221, 222, 223, 224, 225, 236, 237, 238, 239, 240, 241, 242, 243, 244, 245, 246, 247, 248, 249, 250, 251, 252] (by decide +kernel) (by decide +kernel)
set_option maxRecDepth 20000 in
theorem gX7_tail_X7_lookAheadWithoutSounds : GoodIn wsX7_tail (wsV RX7 242 RX7 yX7_lookAheadWithoutSounds wsX7_lookAheadWithoutSounds) := goodIn_app (goodIn_of _ (by decide +kernel)) ggX7_tail_X7_lookAheadWithoutSounds
set_option maxRecDepth 20000 in
theorem ggX7_tail_X7_tailAhead : GoodIn wsX7_tail wsX7_tailAhead := goodIn_r _ [94, 15, 95, 96, 97, 6, 98, 99, 100, 4, 5, 7, 8, 9, 101, 102, 103, 104, 29, 22, 105, 106, 107, 36, 108, 44, 40, 109, 110, 111, 112, 113, 114, 115, 116, 117, 118, 119, 120, 84, 85, 64, 86, 66, 67, 121, 122, 123, 71, 124, 73, 74, 125, 126, 127, 128, 28, 21, 129, 130, 131, 49, 132, 56, 55, 133, 134, 135, 136, 137, 138, 32, 139, 140, 141, 142, 54, 52, 143, 144, 145, 146, 147, 148, 149, 150, 151, 152, 153, 154, 155, 156, 157, 158, 76, 159, 160, 161, 162, 163, 164, 165, 166, 167, 42, 168, 169, 170, 171, 83, 172, 173, 174, 175, 87, 88, 89, 90, 176, 177, 178, 179, 39, 180, 181, 41, 182, 183, 184, 185, 186, 187, 188, 189, 190, 191, 192, 193, 194, 38, 195, 196, 197, 198, 199, 200, 201, 59, 60, 53, 202, 203, 204, 205, 206, 207, 208, 209, 30, 210, 211, 212, 213, 214, 215, 216, 217, 218, 219, 220, 221, 222, 223, 224, 225, 226, 227, 228, 229, 230, 231, 232, 233, 234, 235, 246, 247, 248, 249, 250, 251, 252, 236, 237, 238, 239, 240, 241, 242, 243, 244, 245] (by decide +kernel) (by decide +kernel)
set_option maxRecDepth 20000 in
theorem gX7_tail_X7_tailAhead : GoodIn wsX7_tail (wsV RX7 245 RX7 yX7_tailAhead wsX7_tailAhead) := goodIn_app (goodIn_of _ (by decide +kernel)) ggX7_tail_X7_tailAhead
theorem dX7_tail_0 : decode cX7_tail 0 = .ok (.aload_n 0, 1) := by decide +kernel
theorem dX7_tail_1 : decode cX7_tail 1 = .ok (.getfield 10, 3) := by decide +kernel
theorem dX7_tail_4 : decode cX7_tail 4 = .ok (.iload_n 1, 1) := by decide +kernel
theorem dX7_tail_5 : decode cX7_tail 5 = .ok (.invokevirtual 56, 3) := by decide +kernel
theorem dX7_tail_8 : decode cX7_tail 8 = .ok (.astore_n 2, 1) := by decide +kernel
theorem dX7_tail_9 : decode cX7_tail 9 = .ok (.aload_n 2, 1) := by decide +kernel
theorem dX7_tail_10 : decode cX7_tail 10 = .ok (.ifnonnull 5, 3) := by decide +kernel
theorem dX7_tail_13 : decode cX7_tail 13 = .ok (.iconst (-1), 1) := by decide +kernel
theorem dX7_tail_14 : decode cX7_tail 14 = .ok (.ireturn, 1) := by decide +kernel
theorem dX7_tail_15 : decode cX7_tail 15 = .ok (.aload_n 2, 1) := by decide +kernel
theorem dX7_tail_16 : decode cX7_tail 16 = .ok (.getfield 112, 3) := by decide +kernel
theorem dX7_tail_19 : decode cX7_tail 19 = .ok (.ifCond .ne 6, 3) := by decide +kernel
theorem dX7_tail_22 : decode cX7_tail 22 = .ok (.bipush (-2), 2) := by decide +kernel
theorem dX7_tail_24 : decode cX7_tail 24 = .ok (.ireturn, 1) := by decide +kernel
theorem dX7_tail_25 : decode cX7_tail 25 = .ok (.aload_n 0, 1) := by decide +kernel
theorem dX7_tail_26 : decode cX7_tail 26 = .ok (.invokevirtual 242, 3) := by decide +kernel
theorem dX7_tail_29 : decode cX7_tail 29 = .ok (.aload_n 0, 1) := by decide +kernel
theorem dX7_tail_30 : decode cX7_tail 30 = .ok (.iload_n 1, 1) := by decide +kernel
theorem dX7_tail_31 : decode cX7_tail 31 = .ok (.sipush 200, 3) := by decide +kernel
theorem dX7_tail_34 : decode cX7_tail 34 = .ok (.invokevirtual 245, 3) := by decide +kernel
theorem dX7_tail_37 : decode cX7_tail 37 = .ok (.ireturn, 1) := by decide +kernel
set_option maxRecDepth 20000 in
theorem ggX7_tailWith_X3_roomAt : GoodIn wsX7_tailWith wsX3_roomAt := goodIn_r _ [7, 8, 9, 235, 236, 237, 238, 239, 240, 241, 242, 243, 244] (by decide +kernel) (by decide +kernel)
set_option maxRecDepth 20000 in
theorem gX7_tailWith_X3_roomAt : GoodIn wsX7_tailWith (wsV RX7 56 RX3 yX3_roomAt wsX3_roomAt) := goodIn_app (goodIn_of _ (by decide +kernel)) ggX7_tailWith_X3_roomAt
set_option maxRecDepth 20000 in
theorem ggX7_tailWith_X3_doorAt : GoodIn wsX7_tailWith wsX3_doorAt := goodIn_r _ [13, 14, 15, 235, 236, 237, 238, 239, 240, 241, 242, 243, 244] (by decide +kernel) (by decide +kernel)
set_option maxRecDepth 20000 in
theorem gX7_tailWith_X3_doorAt : GoodIn wsX7_tailWith (wsV RX7 75 RX3 yX3_doorAt wsX3_doorAt) := goodIn_app (goodIn_of _ (by decide +kernel)) ggX7_tailWith_X3_doorAt
set_option maxRecDepth 20000 in
theorem ggX7_tailWith_X7_isWithin : GoodIn wsX7_tailWith wsX7_isWithin := goodIn_r _ [19] (by decide +kernel) (by decide +kernel)
set_option maxRecDepth 20000 in
theorem gX7_tailWith_X7_isWithin : GoodIn wsX7_tailWith (va_wsS RX7 40 yX7_isWithin wsX7_isWithin) := goodIn_app (goodIn_of _ (by decide +kernel)) ggX7_tailWith_X7_isWithin
set_option maxRecDepth 20000 in
theorem ggX7_tailWith_X7_tailIfAimed : GoodIn wsX7_tailWith wsX7_tailIfAimed := goodIn_r _ [23, 24, 25, 26, 27, 18, 28, 1, 29, 30, 31, 32, 6, 33, 9, 15, 34, 35, 36, 37, 38, 39, 8, 14, 40, 41, 42, 43, 44, 45, 46, 47, 48, 49, 50, 51, 52, 53, 54, 55, 56, 57, 58, 59, 60, 61, 62, 63, 64, 65, 66, 67, 68, 69, 70, 71, 72, 73, 74, 75, 76, 77, 78, 79, 80, 81, 82, 83, 84, 85, 86, 87, 88, 89, 90, 91, 92, 93, 94, 95, 96, 97, 98, 99, 100, 101, 10, 11, 12, 13, 102, 103, 104, 105, 106, 107, 108, 109, 110, 111, 112, 113, 114, 115, 4, 5, 7, 116, 117, 118, 119, 120, 121, 122, 123, 124, 125, 126, 127, 128, 129, 130, 131, 132, 133, 134, 135, 136, 137, 138, 139, 140, 141, 142, 143, 144, 145, 146, 147, 148, 149, 150, 151, 152, 153, 154, 155, 156, 157, 158, 159, 160, 161, 162, 163, 164, 165, 166, 167, 168, 169, 170, 171, 172, 173, 174, 175, 176, 177, 178, 179, 180, 181, 182, 183, 184, 185, 186, 187, 188, 189, 190, 191, 192, 193, 194, 195, 196, 197, 198, 199, 200, 201, 202, 203, 204, 205, 206, 207, 208, 209, 210, 211, 212, 213, 214, 215, 216, 217, 218, 219, 220, 221, 222, 223, 224, 225, 226, 227, 235, 236, 237, 238, 239, 240, 241, 242, 243, 244, 228, 229, 230, 231, 232, 233, 234, 245, 246, 247, 248, 249, 250, 251, 252, 253, 254, 255, 256, 257, 258, 259, 260, 261] (by decide +kernel) (by decide +kernel)
set_option maxRecDepth 20000 in
theorem gX7_tailWith_X7_tailIfAimed : GoodIn wsX7_tailWith (wsV RX7 248 RX7 yX7_tailIfAimed wsX7_tailIfAimed) := goodIn_app (goodIn_of _ (by decide +kernel)) ggX7_tailWith_X7_tailIfAimed
theorem dX7_tailWith_0 : decode cX7_tailWith 0 = .ok (.aload_n 0, 1) := by decide +kernel
theorem dX7_tailWith_1 : decode cX7_tailWith 1 = .ok (.getfield 10, 3) := by decide +kernel
theorem dX7_tailWith_4 : decode cX7_tailWith 4 = .ok (.iload_n 1, 1) := by decide +kernel
theorem dX7_tailWith_5 : decode cX7_tailWith 5 = .ok (.invokevirtual 56, 3) := by decide +kernel
theorem dX7_tailWith_8 : decode cX7_tailWith 8 = .ok (.astore 4, 2) := by decide +kernel
theorem dX7_tailWith_10 : decode cX7_tailWith 10 = .ok (.aload 4, 2) := by decide +kernel
theorem dX7_tailWith_12 : decode cX7_tailWith 12 = .ok (.ifnull 24, 3) := by decide +kernel
theorem dX7_tailWith_15 : decode cX7_tailWith 15 = .ok (.aload_n 0, 1) := by decide +kernel
theorem dX7_tailWith_16 : decode cX7_tailWith 16 = .ok (.getfield 10, 3) := by decide +kernel
theorem dX7_tailWith_19 : decode cX7_tailWith 19 = .ok (.iload_n 2, 1) := by decide +kernel
theorem dX7_tailWith_20 : decode cX7_tailWith 20 = .ok (.invokevirtual 75, 3) := by decide +kernel
theorem dX7_tailWith_23 : decode cX7_tailWith 23 = .ok (.ifnull 13, 3) := by decide +kernel
theorem dX7_tailWith_26 : decode cX7_tailWith 26 = .ok (.iload_n 3, 1) := by decide +kernel
theorem dX7_tailWith_27 : decode cX7_tailWith 27 = .ok (.iconst 0, 1) := by decide +kernel
theorem dX7_tailWith_28 : decode cX7_tailWith 28 = .ok (.bipush 10, 2) := by decide +kernel
theorem dX7_tailWith_30 : decode cX7_tailWith 30 = .ok (.invokestatic 40, 3) := by decide +kernel
theorem dX7_tailWith_33 : decode cX7_tailWith 33 = .ok (.ifCond .ne 5, 3) := by decide +kernel
theorem dX7_tailWith_36 : decode cX7_tailWith 36 = .ok (.iconst (-1), 1) := by decide +kernel
theorem dX7_tailWith_37 : decode cX7_tailWith 37 = .ok (.ireturn, 1) := by decide +kernel
theorem dX7_tailWith_38 : decode cX7_tailWith 38 = .ok (.aload 4, 2) := by decide +kernel
theorem dX7_tailWith_40 : decode cX7_tailWith 40 = .ok (.getfield 112, 3) := by decide +kernel
theorem dX7_tailWith_43 : decode cX7_tailWith 43 = .ok (.ifCond .ne 6, 3) := by decide +kernel
theorem dX7_tailWith_46 : decode cX7_tailWith 46 = .ok (.bipush (-2), 2) := by decide +kernel
theorem dX7_tailWith_48 : decode cX7_tailWith 48 = .ok (.ireturn, 1) := by decide +kernel
theorem dX7_tailWith_49 : decode cX7_tailWith 49 = .ok (.aload_n 0, 1) := by decide +kernel
theorem dX7_tailWith_50 : decode cX7_tailWith 50 = .ok (.iload_n 1, 1) := by decide +kernel
theorem dX7_tailWith_51 : decode cX7_tailWith 51 = .ok (.iload_n 2, 1) := by decide +kernel
theorem dX7_tailWith_52 : decode cX7_tailWith 52 = .ok (.iload_n 3, 1) := by decide +kernel
theorem dX7_tailWith_53 : decode cX7_tailWith 53 = .ok (.sipush 200, 3) := by decide +kernel
theorem dX7_tailWith_56 : decode cX7_tailWith 56 = .ok (.invokevirtual 248, 3) := by decide +kernel
theorem dX7_tailWith_59 : decode cX7_tailWith 59 = .ok (.ireturn, 1) := by decide +kernel
set_option maxRecDepth 20000 in
theorem ggX7_bestDoor_X3_roomAt : GoodIn wsX7_bestDoor wsX3_roomAt := goodIn_r _ [8, 9, 10, 242, 243, 244, 245, 246, 247, 248, 249, 250, 251] (by decide +kernel) (by decide +kernel)
set_option maxRecDepth 20000 in
theorem gX7_bestDoor_X3_roomAt : GoodIn wsX7_bestDoor (wsV RX7 56 RX3 yX3_roomAt wsX3_roomAt) := goodIn_app (goodIn_of _ (by decide +kernel)) ggX7_bestDoor_X3_roomAt
set_option maxRecDepth 20000 in
theorem ggX7_bestDoor_X7_isWithin : GoodIn wsX7_bestDoor wsX7_isWithin := goodIn_r _ [14] (by decide +kernel) (by decide +kernel)
set_option maxRecDepth 20000 in
theorem gX7_bestDoor_X7_isWithin : GoodIn wsX7_bestDoor (va_wsS RX7 40 yX7_isWithin wsX7_isWithin) := goodIn_app (goodIn_of _ (by decide +kernel)) ggX7_bestDoor_X7_isWithin
set_option maxRecDepth 20000 in
theorem ggX7_bestDoor_X7_lookAheadWithoutSounds : GoodIn wsX7_bestDoor wsX7_lookAheadWithoutSounds := goodIn_r _ [18, 19, 1, 20, 21, 22, 23, 7, 24, 10, 25, 26, 27, 28, 29, 30, 31, 9, 32, 33, 34, 35, 36, 37, 38, 39, 40, 41, 42, 43, 44, 45, 46, 47, 48, 49, 50, 51, 52, 53, 54, 55, 56, 57, 58, 59, 60, 61, 62, 63, 64, 65, 66, 67, 68, 69, 70, 71, 72, 73, 74, 75, 76, 77, 78, 79, 80, 81, 82, 83, 84, 85, 86, 87, 88, 89, 90, 91, 92, 93, 94, 230, 231, 232, 233, 234, 242, 243, 244, 245, 246, 247, 248, 249, 250, 251, 235, 236, 237, 238, 239, 240, 241, 252, 253, 254, 255, 256, 257, 258, 259, 260, 261, 262, 263, 264, 265, 266, 267, 268] (by decide +kernel) (by decide +kernel)
set_option maxRecDepth 20000 in
theorem gX7_bestDoor_X7_lookAheadWithoutSounds : GoodIn wsX7_bestDoor (wsV RX7 242 RX7 yX7_lookAheadWithoutSounds wsX7_lookAheadWithoutSounds) := goodIn_app (goodIn_of _ (by decide +kernel)) ggX7_bestDoor_X7_lookAheadWithoutSounds
set_option maxRecDepth 20000 in
theorem ggX7_bestDoor_X7_tailAhead : GoodIn wsX7_bestDoor wsX7_tailAhead := goodIn_r _ [98, 19, 99, 100, 101, 7, 102, 103, 104, 5, 6, 8, 9, 10, 105, 106, 107, 108, 33, 26, 109, 110, 111, 40, 112, 48, 44, 113, 114, 115, 116, 117, 118, 119, 120, 121, 122, 123, 124, 88, 89, 68, 90, 70, 71, 125, 126, 127, 75, 128, 77, 78, 129, 130, 131, 132, 32, 25, 133, 134, 135, 53, 136, 60, 59, 137, 138, 139, 140, 141, 142, 36, 143, 144, 145, 146, 58, 56, 147, 148, 149, 150, 151, 152, 153, 154, 155, 156, 157, 158, 159, 160, 161, 162, 80, 163, 164, 165, 166, 167, 168, 169, 170, 171, 46, 172, 173, 174, 175, 87, 176, 177, 178, 179, 91, 92, 93, 94, 180, 181, 182, 183, 43, 184, 185, 45, 186, 187, 188, 189, 190, 191, 192, 193, 194, 195, 196, 197, 198, 42, 199, 200, 201, 202, 203, 204, 205, 63, 64, 57, 206, 207, 208, 209, 210, 211, 212, 213, 34, 214, 215, 216, 217, 230, 231, 232, 233, 234, 235, 236, 237, 238, 239, 240, 241, 242, 243, 244, 245, 246, 247, 248, 249, 250, 251, 262, 263, 264, 265, 266, 267, 268, 252, 253, 254, 255, 256, 257, 258, 259, 260, 261] (by decide +kernel) (by decide +kernel)
set_option maxRecDepth 20000 in
theorem gX7_bestDoor_X7_tailAhead : GoodIn wsX7_bestDoor (wsV RX7 245 RX7 yX7_tailAhead wsX7_tailAhead) := goodIn_app (goodIn_of _ (by decide +kernel)) ggX7_bestDoor_X7_tailAhead
set_option maxRecDepth 20000 in
theorem ggX7_bestDoor_X3_wouldStayAimed : GoodIn wsX7_bestDoor wsX3_wouldStayAimed := goodIn_r _ [221, 222, 223, 129, 130, 131, 7, 132, 32, 25, 252, 253, 254, 255, 256, 257, 258, 259, 260, 261, 242, 243, 244, 245, 246, 247, 248, 249, 250, 251] (by decide +kernel) (by decide +kernel)
set_option maxRecDepth 20000 in
theorem gX7_bestDoor_X3_wouldStayAimed : GoodIn wsX7_bestDoor (wsV RX7 252 RX3 yX3_wouldStayAimed wsX3_wouldStayAimed) := goodIn_app (goodIn_of _ (by decide +kernel)) ggX7_bestDoor_X3_wouldStayAimed
set_option maxRecDepth 20000 in
theorem ggX7_bestDoor_X7_tailIfAimed : GoodIn wsX7_bestDoor wsX7_tailIfAimed := goodIn_r _ [227, 19, 15, 16, 17, 13, 18, 1, 20, 21, 22, 23, 7, 24, 10, 25, 26, 27, 28, 29, 30, 31, 9, 32, 33, 34, 35, 36, 37, 38, 39, 40, 41, 42, 43, 44, 45, 46, 47, 48, 49, 50, 51, 52, 53, 54, 55, 56, 57, 58, 59, 60, 61, 62, 63, 64, 65, 66, 67, 68, 69, 70, 71, 72, 73, 74, 75, 76, 77, 78, 79, 80, 81, 82, 83, 84, 85, 86, 87, 88, 89, 90, 91, 92, 93, 94, 228, 130, 131, 132, 229, 134, 135, 136, 95, 96, 97, 98, 99, 100, 101, 102, 103, 104, 5, 6, 8, 105, 106, 107, 108, 109, 110, 111, 112, 113, 114, 115, 116, 117, 118, 119, 120, 121, 122, 123, 124, 125, 126, 127, 128, 129, 133, 137, 138, 139, 140, 141, 142, 143, 144, 145, 146, 147, 148, 149, 150, 151, 152, 153, 154, 155, 156, 157, 158, 159, 160, 161, 162, 163, 164, 165, 166, 167, 168, 169, 170, 171, 172, 173, 174, 175, 176, 177, 178, 179, 180, 181, 182, 183, 184, 185, 186, 187, 188, 189, 190, 191, 192, 193, 194, 195, 196, 197, 198, 199, 200, 201, 202, 203, 204, 205, 206, 207, 208, 209, 210, 211, 212, 213, 214, 215, 216, 217, 230, 231, 232, 233, 234, 242, 243, 244, 245, 246, 247, 248, 249, 250, 251, 235, 236, 237, 238, 239, 240, 241, 252, 253, 254, 255, 256, 257, 258, 259, 260, 261, 262, 263, 264, 265, 266, 267, 268] (by decide +kernel) (by decide +kernel)
set_option maxRecDepth 20000 in
theorem gX7_bestDoor_X7_tailIfAimed : GoodIn wsX7_bestDoor (wsV RX7 248 RX7 yX7_tailIfAimed wsX7_tailIfAimed) := goodIn_app (goodIn_of _ (by decide +kernel)) ggX7_bestDoor_X7_tailIfAimed
theorem dX7_bestDoor_0 : decode cX7_bestDoor 0 = .ok (.aload_n 0, 1) := by decide +kernel
theorem dX7_bestDoor_1 : decode cX7_bestDoor 1 = .ok (.getfield 10, 3) := by decide +kernel
theorem dX7_bestDoor_4 : decode cX7_bestDoor 4 = .ok (.iload_n 1, 1) := by decide +kernel
theorem dX7_bestDoor_5 : decode cX7_bestDoor 5 = .ok (.invokevirtual 56, 3) := by decide +kernel
theorem dX7_bestDoor_8 : decode cX7_bestDoor 8 = .ok (.astore_n 3, 1) := by decide +kernel
theorem dX7_bestDoor_9 : decode cX7_bestDoor 9 = .ok (.aload_n 3, 1) := by decide +kernel
theorem dX7_bestDoor_10 : decode cX7_bestDoor 10 = .ok (.ifnull 12, 3) := by decide +kernel
theorem dX7_bestDoor_13 : decode cX7_bestDoor 13 = .ok (.iload_n 2, 1) := by decide +kernel
theorem dX7_bestDoor_14 : decode cX7_bestDoor 14 = .ok (.iconst 0, 1) := by decide +kernel
theorem dX7_bestDoor_15 : decode cX7_bestDoor 15 = .ok (.iconst 1, 1) := by decide +kernel
theorem dX7_bestDoor_16 : decode cX7_bestDoor 16 = .ok (.invokestatic 40, 3) := by decide +kernel
theorem dX7_bestDoor_19 : decode cX7_bestDoor 19 = .ok (.ifCond .ne 5, 3) := by decide +kernel
theorem dX7_bestDoor_22 : decode cX7_bestDoor 22 = .ok (.iconst (-1), 1) := by decide +kernel
theorem dX7_bestDoor_23 : decode cX7_bestDoor 23 = .ok (.ireturn, 1) := by decide +kernel
theorem dX7_bestDoor_24 : decode cX7_bestDoor 24 = .ok (.aload_n 3, 1) := by decide +kernel
theorem dX7_bestDoor_25 : decode cX7_bestDoor 25 = .ok (.getfield 112, 3) := by decide +kernel
theorem dX7_bestDoor_28 : decode cX7_bestDoor 28 = .ok (.ifCond .ne 6, 3) := by decide +kernel
theorem dX7_bestDoor_31 : decode cX7_bestDoor 31 = .ok (.bipush (-2), 2) := by decide +kernel
theorem dX7_bestDoor_33 : decode cX7_bestDoor 33 = .ok (.ireturn, 1) := by decide +kernel
theorem dX7_bestDoor_34 : decode cX7_bestDoor 34 = .ok (.aload_n 0, 1) := by decide +kernel
theorem dX7_bestDoor_35 : decode cX7_bestDoor 35 = .ok (.invokevirtual 242, 3) := by decide +kernel
theorem dX7_bestDoor_38 : decode cX7_bestDoor 38 = .ok (.aload_n 0, 1) := by decide +kernel
theorem dX7_bestDoor_39 : decode cX7_bestDoor 39 = .ok (.iload_n 1, 1) := by decide +kernel
theorem dX7_bestDoor_40 : decode cX7_bestDoor 40 = .ok (.sipush 200, 3) := by decide +kernel
theorem dX7_bestDoor_43 : decode cX7_bestDoor 43 = .ok (.invokevirtual 245, 3) := by decide +kernel
theorem dX7_bestDoor_46 : decode cX7_bestDoor 46 = .ok (.istore 4, 2) := by decide +kernel
theorem dX7_bestDoor_48 : decode cX7_bestDoor 48 = .ok (.iload 4, 2) := by decide +kernel
theorem dX7_bestDoor_50 : decode cX7_bestDoor 50 = .ok (.bipush (-4), 2) := by decide +kernel
theorem dX7_bestDoor_52 : decode cX7_bestDoor 52 = .ok (.if_icmp .ne 9, 3) := by decide +kernel
theorem dX7_bestDoor_55 : decode cX7_bestDoor 55 = .ok (.sipush 201, 3) := by decide +kernel
theorem dX7_bestDoor_58 : decode cX7_bestDoor 58 = .ok (.goto 5, 3) := by decide +kernel
theorem dX7_bestDoor_61 : decode cX7_bestDoor 61 = .ok (.iload 4, 2) := by decide +kernel
theorem dX7_bestDoor_63 : decode cX7_bestDoor 63 = .ok (.istore 5, 2) := by decide +kernel
theorem dX7_bestDoor_65 : decode cX7_bestDoor 65 = .ok (.bipush (-4), 2) := by decide +kernel
theorem dX7_bestDoor_67 : decode cX7_bestDoor 67 = .ok (.istore 6, 2) := by decide +kernel
theorem dX7_bestDoor_69 : decode cX7_bestDoor 69 = .ok (.iconst 0, 1) := by decide +kernel
theorem dX7_bestDoor_70 : decode cX7_bestDoor 70 = .ok (.istore 7, 2) := by decide +kernel
theorem dX7_bestDoor_72 : decode cX7_bestDoor 72 = .ok (.iload 7, 2) := by decide +kernel
theorem dX7_bestDoor_74 : decode cX7_bestDoor 74 = .ok (.aload_n 0, 1) := by decide +kernel
theorem dX7_bestDoor_75 : decode cX7_bestDoor 75 = .ok (.getfield 10, 3) := by decide +kernel
theorem dX7_bestDoor_78 : decode cX7_bestDoor 78 = .ok (.getfield 68, 3) := by decide +kernel
theorem dX7_bestDoor_81 : decode cX7_bestDoor 81 = .ok (.if_icmp .ge 78, 3) := by decide +kernel
theorem dX7_bestDoor_84 : decode cX7_bestDoor 84 = .ok (.iconst 0, 1) := by decide +kernel
theorem dX7_bestDoor_85 : decode cX7_bestDoor 85 = .ok (.istore 8, 2) := by decide +kernel
theorem dX7_bestDoor_87 : decode cX7_bestDoor 87 = .ok (.iload 8, 2) := by decide +kernel
theorem dX7_bestDoor_89 : decode cX7_bestDoor 89 = .ok (.bipush 10, 2) := by decide +kernel
theorem dX7_bestDoor_91 : decode cX7_bestDoor 91 = .ok (.if_icmp .gt 62, 3) := by decide +kernel
theorem dX7_bestDoor_94 : decode cX7_bestDoor 94 = .ok (.aload_n 0, 1) := by decide +kernel
theorem dX7_bestDoor_95 : decode cX7_bestDoor 95 = .ok (.getfield 10, 3) := by decide +kernel
theorem dX7_bestDoor_98 : decode cX7_bestDoor 98 = .ok (.iload 7, 2) := by decide +kernel
theorem dX7_bestDoor_100 : decode cX7_bestDoor 100 = .ok (.iload 8, 2) := by decide +kernel
theorem dX7_bestDoor_102 : decode cX7_bestDoor 102 = .ok (.invokevirtual 252, 3) := by decide +kernel
theorem dX7_bestDoor_105 : decode cX7_bestDoor 105 = .ok (.ifCond .eq 6, 3) := by decide +kernel
theorem dX7_bestDoor_108 : decode cX7_bestDoor 108 = .ok (.goto 39, 3) := by decide +kernel
theorem dX7_bestDoor_111 : decode cX7_bestDoor 111 = .ok (.aload_n 0, 1) := by decide +kernel
theorem dX7_bestDoor_112 : decode cX7_bestDoor 112 = .ok (.iload_n 1, 1) := by decide +kernel
theorem dX7_bestDoor_113 : decode cX7_bestDoor 113 = .ok (.iload 7, 2) := by decide +kernel
theorem dX7_bestDoor_115 : decode cX7_bestDoor 115 = .ok (.iload 8, 2) := by decide +kernel
theorem dX7_bestDoor_117 : decode cX7_bestDoor 117 = .ok (.iload 5, 2) := by decide +kernel
theorem dX7_bestDoor_119 : decode cX7_bestDoor 119 = .ok (.iconst 1, 1) := by decide +kernel
theorem dX7_bestDoor_120 : decode cX7_bestDoor 120 = .ok (.isub, 1) := by decide +kernel
theorem dX7_bestDoor_121 : decode cX7_bestDoor 121 = .ok (.invokevirtual 248, 3) := by decide +kernel
theorem dX7_bestDoor_124 : decode cX7_bestDoor 124 = .ok (.istore 9, 2) := by decide +kernel
theorem dX7_bestDoor_126 : decode cX7_bestDoor 126 = .ok (.iload 9, 2) := by decide +kernel
theorem dX7_bestDoor_128 : decode cX7_bestDoor 128 = .ok (.bipush (-4), 2) := by decide +kernel
theorem dX7_bestDoor_130 : decode cX7_bestDoor 130 = .ok (.if_icmp .eq 17, 3) := by decide +kernel
theorem dX7_bestDoor_133 : decode cX7_bestDoor 133 = .ok (.iload 9, 2) := by decide +kernel
theorem dX7_bestDoor_135 : decode cX7_bestDoor 135 = .ok (.istore 5, 2) := by decide +kernel
theorem dX7_bestDoor_137 : decode cX7_bestDoor 137 = .ok (.bipush 100, 2) := by decide +kernel
theorem dX7_bestDoor_139 : decode cX7_bestDoor 139 = .ok (.iload 7, 2) := by decide +kernel
theorem dX7_bestDoor_141 : decode cX7_bestDoor 141 = .ok (.imul, 1) := by decide +kernel
theorem dX7_bestDoor_142 : decode cX7_bestDoor 142 = .ok (.iload 8, 2) := by decide +kernel
theorem dX7_bestDoor_144 : decode cX7_bestDoor 144 = .ok (.iadd, 1) := by decide +kernel
theorem dX7_bestDoor_145 : decode cX7_bestDoor 145 = .ok (.istore 6, 2) := by decide +kernel
theorem dX7_bestDoor_147 : decode cX7_bestDoor 147 = .ok (.iinc 8 10, 3) := by decide +kernel
theorem dX7_bestDoor_150 : decode cX7_bestDoor 150 = .ok (.goto (-63), 3) := by decide +kernel
theorem dX7_bestDoor_153 : decode cX7_bestDoor 153 = .ok (.iinc 7 1, 3) := by decide +kernel
theorem dX7_bestDoor_156 : decode cX7_bestDoor 156 = .ok (.goto (-84), 3) := by decide +kernel
theorem dX7_bestDoor_159 : decode cX7_bestDoor 159 = .ok (.iload 6, 2) := by decide +kernel
theorem dX7_bestDoor_161 : decode cX7_bestDoor 161 = .ok (.bipush (-4), 2) := by decide +kernel
theorem dX7_bestDoor_163 : decode cX7_bestDoor 163 = .ok (.if_icmp .ne 6, 3) := by decide +kernel
theorem dX7_bestDoor_166 : decode cX7_bestDoor 166 = .ok (.bipush (-4), 2) := by decide +kernel
theorem dX7_bestDoor_168 : decode cX7_bestDoor 168 = .ok (.ireturn, 1) := by decide +kernel
theorem dX7_bestDoor_169 : decode cX7_bestDoor 169 = .ok (.iload_n 2, 1) := by decide +kernel
theorem dX7_bestDoor_170 : decode cX7_bestDoor 170 = .ok (.ifCond .ne 8, 3) := by decide +kernel
theorem dX7_bestDoor_173 : decode cX7_bestDoor 173 = .ok (.iload 6, 2) := by decide +kernel
theorem dX7_bestDoor_175 : decode cX7_bestDoor 175 = .ok (.goto 5, 3) := by decide +kernel
theorem dX7_bestDoor_178 : decode cX7_bestDoor 178 = .ok (.iload 5, 2) := by decide +kernel
theorem dX7_bestDoor_180 : decode cX7_bestDoor 180 = .ok (.ireturn, 1) := by decide +kernel
set_option maxRecDepth 20000 in
theorem ggX7_rise_X3_roomAt : GoodIn wsX7_rise wsX3_roomAt := goodIn_r _ [7, 8, 9, 214, 215, 216, 217, 218, 219, 220, 221, 222, 223] (by decide +kernel) (by decide +kernel)
set_option maxRecDepth 20000 in
theorem gX7_rise_X3_roomAt : GoodIn wsX7_rise (wsV RX7 56 RX3 yX3_roomAt wsX3_roomAt) := goodIn_app (goodIn_of _ (by decide +kernel)) ggX7_rise_X3_roomAt
set_option maxRecDepth 20000 in
theorem ggX7_rise_X7_lookAheadWithoutSounds : GoodIn wsX7_rise wsX7_lookAheadWithoutSounds := goodIn_r _ [14, 2, 1, 15, 16, 17, 18, 6, 19, 9, 20, 21, 22, 23, 24, 25, 26, 8, 27, 28, 29, 30, 31, 32, 33, 34, 35, 36, 37, 38, 39, 40, 41, 42, 43, 44, 45, 46, 47, 48, 49, 50, 51, 52, 53, 54, 55, 56, 57, 58, 59, 60, 61, 62, 63, 64, 65, 66, 67, 68, 69, 70, 71, 72, 73, 74, 75, 76, 77, 78, 79, 80, 81, 82, 83, 84, 85, 86, 87, 88, 89, 209, 210, 211, 212, 213, 214, 215, 216, 217, 218, 219, 220, 221, 222, 223, 224, 225, 226, 227, 228, 229, 230, 231, 232, 233, 234, 235, 236, 237, 238, 239, 240, 241, 242, 243, 244, 245, 246, 247] (by decide +kernel) (by decide +kernel)
set_option maxRecDepth 20000 in
theorem gX7_rise_X7_lookAheadWithoutSounds : GoodIn wsX7_rise (wsV RX7 242 RX7 yX7_lookAheadWithoutSounds wsX7_lookAheadWithoutSounds) := goodIn_app (goodIn_of _ (by decide +kernel)) ggX7_rise_X7_lookAheadWithoutSounds
set_option maxRecDepth 20000 in
theorem ggX7_rise_X3_energyIn : GoodIn wsX7_rise wsX3_energyIn := goodIn_r _ [93, 94, 95, 4, 5, 6, 7, 8, 9, 224, 225, 226, 227, 228, 229, 230, 214, 215, 216, 217, 218, 219, 220, 221, 222, 223] (by decide +kernel) (by decide +kernel)
set_option maxRecDepth 20000 in
theorem gX7_rise_X3_energyIn : GoodIn wsX7_rise (wsV RX7 255 RX3 yX3_energyIn wsX3_energyIn) := goodIn_app (goodIn_of _ (by decide +kernel)) ggX7_rise_X3_energyIn
set_option maxRecDepth 20000 in
theorem ggX7_rise_X3_goOn : GoodIn wsX7_rise wsX3_goOn := goodIn_r _ [99, 8, 9, 28, 21, 100, 101, 102, 35, 103, 43, 39, 104, 105, 106, 107, 108, 109, 110, 6, 111, 112, 113, 114, 115, 83, 84, 63, 85, 65, 66, 116, 117, 118, 70, 119, 72, 73, 120, 121, 122, 123, 27, 20, 124, 125, 126, 48, 127, 55, 54, 128, 129, 130, 131, 132, 133, 31, 134, 135, 136, 137, 53, 51, 138, 139, 140, 141, 142, 143, 144, 145, 146, 147, 148, 149, 150, 151, 152, 153, 75, 154, 155, 156, 157, 158, 95, 4, 5, 7, 159, 160, 161, 162, 41, 163, 164, 165, 166, 82, 167, 168, 169, 170, 86, 87, 88, 89, 171, 172, 173, 174, 38, 175, 176, 40, 177, 178, 179, 180, 181, 94, 182, 183, 184, 185, 186, 187, 188, 189, 37, 190, 191, 192, 193, 194, 195, 196, 58, 59, 52, 197, 198, 199, 200, 201, 202, 203, 204, 29, 205, 206, 207, 208, 214, 215, 216, 217, 218, 219, 220, 221, 222, 223, 224, 225, 226, 227, 228, 229, 230, 241, 242, 243, 244, 245, 246, 247, 231, 232, 233, 234, 235, 236, 237, 238, 239, 240] (by decide +kernel) (by decide +kernel)
set_option maxRecDepth 20000 in
theorem gX7_rise_X3_goOn : GoodIn wsX7_rise (wsV RX7 236 RX3 yX3_goOn wsX3_goOn) := goodIn_app (goodIn_of _ (by decide +kernel)) ggX7_rise_X3_goOn
theorem dX7_rise_0 : decode cX7_rise 0 = .ok (.aload_n 0, 1) := by decide +kernel
theorem dX7_rise_1 : decode cX7_rise 1 = .ok (.getfield 10, 3) := by decide +kernel
theorem dX7_rise_4 : decode cX7_rise 4 = .ok (.iload_n 1, 1) := by decide +kernel
theorem dX7_rise_5 : decode cX7_rise 5 = .ok (.invokevirtual 56, 3) := by decide +kernel
theorem dX7_rise_8 : decode cX7_rise 8 = .ok (.ifnonnull 5, 3) := by decide +kernel
theorem dX7_rise_11 : decode cX7_rise 11 = .ok (.iconst (-1), 1) := by decide +kernel
theorem dX7_rise_12 : decode cX7_rise 12 = .ok (.ireturn, 1) := by decide +kernel
theorem dX7_rise_13 : decode cX7_rise 13 = .ok (.aload_n 0, 1) := by decide +kernel
theorem dX7_rise_14 : decode cX7_rise 14 = .ok (.invokevirtual 242, 3) := by decide +kernel
theorem dX7_rise_17 : decode cX7_rise 17 = .ok (.aload_n 0, 1) := by decide +kernel
theorem dX7_rise_18 : decode cX7_rise 18 = .ok (.getfield 16, 3) := by decide +kernel
theorem dX7_rise_21 : decode cX7_rise 21 = .ok (.iload_n 1, 1) := by decide +kernel
theorem dX7_rise_22 : decode cX7_rise 22 = .ok (.invokevirtual 255, 3) := by decide +kernel
theorem dX7_rise_25 : decode cX7_rise 25 = .ok (.istore_n 2, 1) := by decide +kernel
theorem dX7_rise_26 : decode cX7_rise 26 = .ok (.iconst 1, 1) := by decide +kernel
theorem dX7_rise_27 : decode cX7_rise 27 = .ok (.istore_n 3, 1) := by decide +kernel
theorem dX7_rise_28 : decode cX7_rise 28 = .ok (.iload_n 3, 1) := by decide +kernel
theorem dX7_rise_29 : decode cX7_rise 29 = .ok (.sipush 200, 3) := by decide +kernel
theorem dX7_rise_32 : decode cX7_rise 32 = .ok (.if_icmp .gt 37, 3) := by decide +kernel
theorem dX7_rise_35 : decode cX7_rise 35 = .ok (.aload_n 0, 1) := by decide +kernel
theorem dX7_rise_36 : decode cX7_rise 36 = .ok (.getfield 16, 3) := by decide +kernel
theorem dX7_rise_39 : decode cX7_rise 39 = .ok (.invokevirtual 236, 3) := by decide +kernel
theorem dX7_rise_42 : decode cX7_rise 42 = .ok (.aload_n 0, 1) := by decide +kernel
theorem dX7_rise_43 : decode cX7_rise 43 = .ok (.getfield 16, 3) := by decide +kernel
theorem dX7_rise_46 : decode cX7_rise 46 = .ok (.iload_n 1, 1) := by decide +kernel
theorem dX7_rise_47 : decode cX7_rise 47 = .ok (.invokevirtual 255, 3) := by decide +kernel
theorem dX7_rise_50 : decode cX7_rise 50 = .ok (.istore 4, 2) := by decide +kernel
theorem dX7_rise_52 : decode cX7_rise 52 = .ok (.iload 4, 2) := by decide +kernel
theorem dX7_rise_54 : decode cX7_rise 54 = .ok (.iload_n 2, 1) := by decide +kernel
theorem dX7_rise_55 : decode cX7_rise 55 = .ok (.if_icmp .le 5, 3) := by decide +kernel
theorem dX7_rise_58 : decode cX7_rise 58 = .ok (.iload_n 3, 1) := by decide +kernel
theorem dX7_rise_59 : decode cX7_rise 59 = .ok (.ireturn, 1) := by decide +kernel
theorem dX7_rise_60 : decode cX7_rise 60 = .ok (.iload 4, 2) := by decide +kernel
theorem dX7_rise_62 : decode cX7_rise 62 = .ok (.istore_n 2, 1) := by decide +kernel
theorem dX7_rise_63 : decode cX7_rise 63 = .ok (.iinc 3 1, 3) := by decide +kernel
theorem dX7_rise_66 : decode cX7_rise 66 = .ok (.goto (-38), 3) := by decide +kernel
theorem dX7_rise_69 : decode cX7_rise 69 = .ok (.bipush (-4), 2) := by decide +kernel
theorem dX7_rise_71 : decode cX7_rise 71 = .ok (.ireturn, 1) := by decide +kernel
set_option maxRecDepth 20000 in
theorem ggX7_peak_X3_roomAt : GoodIn wsX7_peak wsX3_roomAt := goodIn_r _ [7, 8, 9, 207, 208, 209, 210, 211, 212, 213, 214, 215, 216] (by decide +kernel) (by decide +kernel)
set_option maxRecDepth 20000 in
theorem gX7_peak_X3_roomAt : GoodIn wsX7_peak (wsV RX7 56 RX3 yX3_roomAt wsX3_roomAt) := goodIn_app (goodIn_of _ (by decide +kernel)) ggX7_peak_X3_roomAt
set_option maxRecDepth 20000 in
theorem ggX7_peak_X7_isWithin : GoodIn wsX7_peak wsX7_isWithin := goodIn_r _ [13] (by decide +kernel) (by decide +kernel)
set_option maxRecDepth 20000 in
theorem gX7_peak_X7_isWithin : GoodIn wsX7_peak (va_wsS RX7 40 yX7_isWithin wsX7_isWithin) := goodIn_app (goodIn_of _ (by decide +kernel)) ggX7_peak_X7_isWithin
set_option maxRecDepth 20000 in
theorem ggX7_peak_X3_copyFrom : GoodIn wsX7_peak wsX3_copyFrom := goodIn_r _ [17, 9, 18, 19, 20, 21, 22, 23, 24, 8, 25, 26, 27, 28, 29, 30, 31, 32, 33, 34, 35, 36, 37, 38, 39, 40, 41, 42, 43, 44, 45, 46, 47, 48, 49, 50, 51, 52, 53, 54, 55, 56, 57, 58, 59, 60, 61, 62, 63, 64, 65, 66, 67, 68, 69, 70, 71, 72, 73, 74, 207, 208, 209, 210, 211, 212, 213, 214, 215, 216, 217, 218, 219, 220, 221, 222, 223, 224, 225, 226, 227, 228, 229, 230, 231, 232, 233, 234, 235, 236, 237, 238, 239, 240] (by decide +kernel) (by decide +kernel)
set_option maxRecDepth 20000 in
theorem gX7_peak_X3_copyFrom : GoodIn wsX7_peak (wsV RX7 258 RX3 yX3_copyFrom wsX3_copyFrom) := goodIn_app (goodIn_of _ (by decide +kernel)) ggX7_peak_X3_copyFrom
set_option maxRecDepth 20000 in
theorem ggX7_peak_X3_energyIn : GoodIn wsX7_peak wsX3_energyIn := goodIn_r _ [78, 79, 80, 4, 5, 6, 7, 8, 9, 217, 218, 219, 220, 221, 222, 223, 207, 208, 209, 210, 211, 212, 213, 214, 215, 216] (by decide +kernel) (by decide +kernel)
set_option maxRecDepth 20000 in
theorem gX7_peak_X3_energyIn : GoodIn wsX7_peak (wsV RX7 255 RX3 yX3_energyIn wsX3_energyIn) := goodIn_app (goodIn_of _ (by decide +kernel)) ggX7_peak_X3_energyIn
set_option maxRecDepth 20000 in
theorem ggX7_peak_X3_goOn : GoodIn wsX7_peak wsX3_goOn := goodIn_r _ [84, 8, 9, 26, 19, 85, 86, 87, 33, 88, 41, 37, 89, 90, 91, 92, 93, 94, 95, 6, 96, 97, 98, 99, 100, 101, 102, 61, 103, 63, 64, 104, 105, 106, 68, 107, 70, 71, 108, 109, 110, 111, 25, 18, 112, 113, 114, 46, 115, 53, 52, 116, 117, 118, 119, 120, 121, 29, 122, 123, 124, 125, 51, 49, 126, 127, 128, 129, 130, 131, 132, 133, 134, 135, 136, 137, 138, 139, 140, 141, 73, 142, 143, 144, 145, 146, 80, 4, 5, 7, 147, 148, 149, 150, 39, 151, 152, 153, 154, 155, 156, 157, 158, 159, 160, 161, 162, 163, 164, 165, 166, 167, 36, 168, 169, 38, 170, 171, 172, 173, 174, 79, 175, 176, 177, 178, 179, 180, 181, 182, 35, 183, 184, 185, 186, 187, 188, 189, 56, 57, 50, 190, 191, 192, 193, 194, 195, 196, 197, 27, 198, 199, 200, 201, 207, 208, 209, 210, 211, 212, 213, 214, 215, 216, 217, 218, 219, 220, 221, 222, 223, 234, 235, 236, 237, 238, 239, 240, 224, 225, 226, 227, 228, 229, 230, 231, 232, 233] (by decide +kernel) (by decide +kernel)
set_option maxRecDepth 20000 in
theorem gX7_peak_X3_goOn : GoodIn wsX7_peak (wsV RX7 236 RX3 yX3_goOn wsX3_goOn) := goodIn_app (goodIn_of _ (by decide +kernel)) ggX7_peak_X3_goOn
theorem dX7_peak_0 : decode cX7_peak 0 = .ok (.aload_n 0, 1) := by decide +kernel
theorem dX7_peak_1 : decode cX7_peak 1 = .ok (.getfield 10, 3) := by decide +kernel
theorem dX7_peak_4 : decode cX7_peak 4 = .ok (.iload_n 1, 1) := by decide +kernel
theorem dX7_peak_5 : decode cX7_peak 5 = .ok (.invokevirtual 56, 3) := by decide +kernel
theorem dX7_peak_8 : decode cX7_peak 8 = .ok (.ifnull 12, 3) := by decide +kernel
theorem dX7_peak_11 : decode cX7_peak 11 = .ok (.iload_n 2, 1) := by decide +kernel
theorem dX7_peak_12 : decode cX7_peak 12 = .ok (.iconst 0, 1) := by decide +kernel
theorem dX7_peak_13 : decode cX7_peak 13 = .ok (.iconst 1, 1) := by decide +kernel
theorem dX7_peak_14 : decode cX7_peak 14 = .ok (.invokestatic 40, 3) := by decide +kernel
theorem dX7_peak_17 : decode cX7_peak 17 = .ok (.ifCond .ne 5, 3) := by decide +kernel
theorem dX7_peak_20 : decode cX7_peak 20 = .ok (.iconst (-1), 1) := by decide +kernel
theorem dX7_peak_21 : decode cX7_peak 21 = .ok (.ireturn, 1) := by decide +kernel
theorem dX7_peak_22 : decode cX7_peak 22 = .ok (.aload_n 0, 1) := by decide +kernel
theorem dX7_peak_23 : decode cX7_peak 23 = .ok (.getfield 16, 3) := by decide +kernel
theorem dX7_peak_26 : decode cX7_peak 26 = .ok (.aload_n 0, 1) := by decide +kernel
theorem dX7_peak_27 : decode cX7_peak 27 = .ok (.getfield 10, 3) := by decide +kernel
theorem dX7_peak_30 : decode cX7_peak 30 = .ok (.invokevirtual 258, 3) := by decide +kernel
theorem dX7_peak_33 : decode cX7_peak 33 = .ok (.aload_n 0, 1) := by decide +kernel
theorem dX7_peak_34 : decode cX7_peak 34 = .ok (.getfield 16, 3) := by decide +kernel
theorem dX7_peak_37 : decode cX7_peak 37 = .ok (.iload_n 1, 1) := by decide +kernel
theorem dX7_peak_38 : decode cX7_peak 38 = .ok (.invokevirtual 255, 3) := by decide +kernel
theorem dX7_peak_41 : decode cX7_peak 41 = .ok (.istore_n 3, 1) := by decide +kernel
theorem dX7_peak_42 : decode cX7_peak 42 = .ok (.iconst 0, 1) := by decide +kernel
theorem dX7_peak_43 : decode cX7_peak 43 = .ok (.istore 4, 2) := by decide +kernel
theorem dX7_peak_45 : decode cX7_peak 45 = .ok (.iconst 1, 1) := by decide +kernel
theorem dX7_peak_46 : decode cX7_peak 46 = .ok (.istore 5, 2) := by decide +kernel
theorem dX7_peak_48 : decode cX7_peak 48 = .ok (.iload 5, 2) := by decide +kernel
theorem dX7_peak_50 : decode cX7_peak 50 = .ok (.sipush 200, 3) := by decide +kernel
theorem dX7_peak_53 : decode cX7_peak 53 = .ok (.if_icmp .gt 39, 3) := by decide +kernel
theorem dX7_peak_56 : decode cX7_peak 56 = .ok (.aload_n 0, 1) := by decide +kernel
theorem dX7_peak_57 : decode cX7_peak 57 = .ok (.getfield 16, 3) := by decide +kernel
theorem dX7_peak_60 : decode cX7_peak 60 = .ok (.invokevirtual 236, 3) := by decide +kernel
theorem dX7_peak_63 : decode cX7_peak 63 = .ok (.aload_n 0, 1) := by decide +kernel
theorem dX7_peak_64 : decode cX7_peak 64 = .ok (.getfield 16, 3) := by decide +kernel
theorem dX7_peak_67 : decode cX7_peak 67 = .ok (.iload_n 1, 1) := by decide +kernel
theorem dX7_peak_68 : decode cX7_peak 68 = .ok (.invokevirtual 255, 3) := by decide +kernel
theorem dX7_peak_71 : decode cX7_peak 71 = .ok (.istore 6, 2) := by decide +kernel
theorem dX7_peak_73 : decode cX7_peak 73 = .ok (.iload 6, 2) := by decide +kernel
theorem dX7_peak_75 : decode cX7_peak 75 = .ok (.iload_n 3, 1) := by decide +kernel
theorem dX7_peak_76 : decode cX7_peak 76 = .ok (.if_icmp .le 10, 3) := by decide +kernel
theorem dX7_peak_79 : decode cX7_peak 79 = .ok (.iload 6, 2) := by decide +kernel
theorem dX7_peak_81 : decode cX7_peak 81 = .ok (.istore_n 3, 1) := by decide +kernel
theorem dX7_peak_82 : decode cX7_peak 82 = .ok (.iload 5, 2) := by decide +kernel
theorem dX7_peak_84 : decode cX7_peak 84 = .ok (.istore 4, 2) := by decide +kernel
theorem dX7_peak_86 : decode cX7_peak 86 = .ok (.iinc 5 1, 3) := by decide +kernel
theorem dX7_peak_89 : decode cX7_peak 89 = .ok (.goto (-41), 3) := by decide +kernel
theorem dX7_peak_92 : decode cX7_peak 92 = .ok (.iload_n 2, 1) := by decide +kernel
theorem dX7_peak_93 : decode cX7_peak 93 = .ok (.ifCond .ne 8, 3) := by decide +kernel
theorem dX7_peak_96 : decode cX7_peak 96 = .ok (.iload 4, 2) := by decide +kernel
theorem dX7_peak_98 : decode cX7_peak 98 = .ok (.goto 4, 3) := by decide +kernel
theorem dX7_peak_101 : decode cX7_peak 101 = .ok (.iload_n 3, 1) := by decide +kernel
theorem dX7_peak_102 : decode cX7_peak 102 = .ok (.ireturn, 1) := by decide +kernel
set_option maxRecDepth 20000 in
theorem ggX7_quiet_X3_copyFrom : GoodIn wsX7_quiet wsX3_copyFrom := goodIn_r _ [7, 8, 9, 10, 11, 12, 13, 14, 15, 16, 17, 18, 19, 20, 21, 22, 23, 24, 25, 26, 27, 28, 29, 30, 31, 32, 33, 34, 35, 36, 37, 38, 39, 40, 41, 42, 43, 44, 45, 46, 47, 48, 49, 50, 51, 52, 53, 54, 55, 56, 57, 58, 59, 60, 61, 62, 63, 64, 65, 66, 219, 220, 221, 222, 223, 224, 225, 226, 227, 228, 229, 230, 231, 232, 233, 234, 235, 236, 237, 238, 239, 240, 241, 242, 243, 244, 245, 246, 247, 248, 249, 250, 251, 252] (by decide +kernel) (by decide +kernel)
set_option maxRecDepth 20000 in
theorem gX7_quiet_X3_copyFrom : GoodIn wsX7_quiet (wsV RX7 258 RX3 yX3_copyFrom wsX3_copyFrom) := goodIn_app (goodIn_of _ (by decide +kernel)) ggX7_quiet_X3_copyFrom
set_option maxRecDepth 20000 in
theorem ggX7_quiet_X3_isQuiet : GoodIn wsX7_quiet wsX3_isQuiet := goodIn_r _ [70, 11, 10, 71, 72, 73, 6, 74, 8, 75, 76, 77, 78, 79, 9, 80, 81, 82, 38, 83, 49, 84, 85, 86, 53, 87, 55, 56, 88, 219, 220, 221, 222, 223, 224, 225, 226, 227, 228, 229, 230, 231, 232, 233, 234, 235, 236, 237, 238, 239, 240, 241, 242, 243, 244, 245, 246, 247, 248, 249, 250, 251, 252] (by decide +kernel) (by decide +kernel)
set_option maxRecDepth 20000 in
theorem gX7_quiet_X3_isQuiet : GoodIn wsX7_quiet (wsV RX7 261 RX3 yX3_isQuiet wsX3_isQuiet) := goodIn_app (goodIn_of _ (by decide +kernel)) ggX7_quiet_X3_isQuiet
set_option maxRecDepth 20000 in
theorem ggX7_quiet_X3_goOn : GoodIn wsX7_quiet wsX3_goOn := goodIn_r _ [92, 16, 8, 18, 10, 93, 94, 95, 25, 96, 33, 29, 97, 98, 99, 100, 101, 102, 103, 6, 104, 105, 106, 107, 108, 109, 110, 53, 111, 55, 56, 112, 113, 114, 60, 115, 62, 63, 116, 117, 118, 119, 17, 9, 120, 121, 122, 38, 123, 45, 44, 124, 125, 126, 127, 128, 129, 21, 130, 131, 132, 133, 43, 41, 134, 135, 136, 137, 138, 139, 140, 141, 142, 143, 144, 145, 146, 147, 148, 149, 65, 150, 151, 152, 153, 154, 155, 156, 157, 158, 159, 160, 161, 162, 31, 163, 164, 165, 166, 167, 168, 169, 170, 171, 172, 173, 174, 175, 176, 177, 178, 179, 28, 180, 181, 30, 182, 183, 184, 185, 186, 75, 187, 188, 189, 190, 191, 192, 193, 194, 27, 195, 196, 197, 198, 199, 200, 201, 48, 49, 42, 202, 203, 204, 205, 206, 207, 208, 209, 19, 210, 211, 212, 213, 219, 220, 221, 222, 223, 224, 225, 226, 227, 228, 229, 230, 231, 232, 233, 234, 235, 246, 247, 248, 249, 250, 251, 252, 236, 237, 238, 239, 240, 241, 242, 243, 244, 245] (by decide +kernel) (by decide +kernel)
set_option maxRecDepth 20000 in
theorem gX7_quiet_X3_goOn : GoodIn wsX7_quiet (wsV RX7 236 RX3 yX3_goOn wsX3_goOn) := goodIn_app (goodIn_of _ (by decide +kernel)) ggX7_quiet_X3_goOn
theorem dX7_quiet_0 : decode cX7_quiet 0 = .ok (.aload_n 0, 1) := by decide +kernel
theorem dX7_quiet_1 : decode cX7_quiet 1 = .ok (.getfield 16, 3) := by decide +kernel
theorem dX7_quiet_4 : decode cX7_quiet 4 = .ok (.aload_n 0, 1) := by decide +kernel
theorem dX7_quiet_5 : decode cX7_quiet 5 = .ok (.getfield 10, 3) := by decide +kernel
theorem dX7_quiet_8 : decode cX7_quiet 8 = .ok (.invokevirtual 258, 3) := by decide +kernel
theorem dX7_quiet_11 : decode cX7_quiet 11 = .ok (.iconst 0, 1) := by decide +kernel
theorem dX7_quiet_12 : decode cX7_quiet 12 = .ok (.istore_n 1, 1) := by decide +kernel
theorem dX7_quiet_13 : decode cX7_quiet 13 = .ok (.iload_n 1, 1) := by decide +kernel
theorem dX7_quiet_14 : decode cX7_quiet 14 = .ok (.sipush 200, 3) := by decide +kernel
theorem dX7_quiet_17 : decode cX7_quiet 17 = .ok (.if_icmp .gt 28, 3) := by decide +kernel
theorem dX7_quiet_20 : decode cX7_quiet 20 = .ok (.aload_n 0, 1) := by decide +kernel
theorem dX7_quiet_21 : decode cX7_quiet 21 = .ok (.getfield 16, 3) := by decide +kernel
theorem dX7_quiet_24 : decode cX7_quiet 24 = .ok (.invokevirtual 261, 3) := by decide +kernel
theorem dX7_quiet_27 : decode cX7_quiet 27 = .ok (.ifCond .eq 5, 3) := by decide +kernel
theorem dX7_quiet_30 : decode cX7_quiet 30 = .ok (.iload_n 1, 1) := by decide +kernel
theorem dX7_quiet_31 : decode cX7_quiet 31 = .ok (.ireturn, 1) := by decide +kernel
theorem dX7_quiet_32 : decode cX7_quiet 32 = .ok (.aload_n 0, 1) := by decide +kernel
theorem dX7_quiet_33 : decode cX7_quiet 33 = .ok (.getfield 16, 3) := by decide +kernel
theorem dX7_quiet_36 : decode cX7_quiet 36 = .ok (.invokevirtual 236, 3) := by decide +kernel
theorem dX7_quiet_39 : decode cX7_quiet 39 = .ok (.iinc 1 1, 3) := by decide +kernel
theorem dX7_quiet_42 : decode cX7_quiet 42 = .ok (.goto (-29), 3) := by decide +kernel
theorem dX7_quiet_45 : decode cX7_quiet 45 = .ok (.bipush (-4), 2) := by decide +kernel
theorem dX7_quiet_47 : decode cX7_quiet 47 = .ok (.ireturn, 1) := by decide +kernel
set_option maxRecDepth 20000 in
theorem ggX7_fell_X3_roomAt : GoodIn wsX7_fell wsX3_roomAt := goodIn_r _ [9, 10, 11, 34, 35, 36, 37, 38, 39, 40, 41, 42, 43] (by decide +kernel) (by decide +kernel)
set_option maxRecDepth 20000 in
theorem gX7_fell_X3_roomAt : GoodIn wsX7_fell (wsV RX7 56 RX3 yX3_roomAt wsX3_roomAt) := goodIn_app (goodIn_of _ (by decide +kernel)) ggX7_fell_X3_roomAt
set_option maxRecDepth 20000 in
theorem ggX7_fell_X7_isWithin : GoodIn wsX7_fell wsX7_isWithin := goodIn_r _ [15] (by decide +kernel) (by decide +kernel)
set_option maxRecDepth 20000 in
theorem gX7_fell_X7_isWithin : GoodIn wsX7_fell (va_wsS RX7 40 yX7_isWithin wsX7_isWithin) := goodIn_app (goodIn_of _ (by decide +kernel)) ggX7_fell_X7_isWithin
set_option maxRecDepth 20000 in
theorem ggX7_fell_X5_energyAheadOf : GoodIn wsX7_fell wsX5_energyAheadOf := goodIn_r _ [20, 21, 22, 23, 24, 25, 44, 45, 46, 47, 48, 49, 50] (by decide +kernel) (by decide +kernel)
set_option maxRecDepth 20000 in
theorem gX7_fell_X5_energyAheadOf : GoodIn wsX7_fell (wsV RX7 267 RX5 yX5_energyAheadOf wsX5_energyAheadOf) := goodIn_app (goodIn_of _ (by decide +kernel)) ggX7_fell_X5_energyAheadOf
set_option maxRecDepth 20000 in
theorem ggX7_fell_X7_levelOf : GoodIn wsX7_fell wsX7_levelOf := goodIn_r _ [28] (by decide +kernel) (by decide +kernel)
set_option maxRecDepth 20000 in
theorem gX7_fell_X7_levelOf : GoodIn wsX7_fell (va_wsS RX7 119 yX7_levelOf wsX7_levelOf) := goodIn_app (goodIn_of _ (by decide +kernel)) ggX7_fell_X7_levelOf
theorem dX7_fell_0 : decode cX7_fell 0 = .ok (.aload_n 0, 1) := by decide +kernel
theorem dX7_fell_1 : decode cX7_fell 1 = .ok (.getfield 10, 3) := by decide +kernel
theorem dX7_fell_4 : decode cX7_fell 4 = .ok (.iload_n 1, 1) := by decide +kernel
theorem dX7_fell_5 : decode cX7_fell 5 = .ok (.invokevirtual 56, 3) := by decide +kernel
theorem dX7_fell_8 : decode cX7_fell 8 = .ok (.astore_n 3, 1) := by decide +kernel
theorem dX7_fell_9 : decode cX7_fell 9 = .ok (.aload_n 3, 1) := by decide +kernel
theorem dX7_fell_10 : decode cX7_fell 10 = .ok (.ifnull 13, 3) := by decide +kernel
theorem dX7_fell_13 : decode cX7_fell 13 = .ok (.iload_n 2, 1) := by decide +kernel
theorem dX7_fell_14 : decode cX7_fell 14 = .ok (.iconst 1, 1) := by decide +kernel
theorem dX7_fell_15 : decode cX7_fell 15 = .ok (.bipush 32, 2) := by decide +kernel
theorem dX7_fell_17 : decode cX7_fell 17 = .ok (.invokestatic 40, 3) := by decide +kernel
theorem dX7_fell_20 : decode cX7_fell 20 = .ok (.ifCond .ne 5, 3) := by decide +kernel
theorem dX7_fell_23 : decode cX7_fell 23 = .ok (.iconst (-1), 1) := by decide +kernel
theorem dX7_fell_24 : decode cX7_fell 24 = .ok (.ireturn, 1) := by decide +kernel
theorem dX7_fell_25 : decode cX7_fell 25 = .ok (.aload_n 0, 1) := by decide +kernel
theorem dX7_fell_26 : decode cX7_fell 26 = .ok (.getfield 10, 3) := by decide +kernel
theorem dX7_fell_29 : decode cX7_fell 29 = .ok (.getfield 136, 3) := by decide +kernel
theorem dX7_fell_32 : decode cX7_fell 32 = .ok (.iload_n 2, 1) := by decide +kernel
theorem dX7_fell_33 : decode cX7_fell 33 = .ok (.isub, 1) := by decide +kernel
theorem dX7_fell_34 : decode cX7_fell 34 = .ok (.istore 4, 2) := by decide +kernel
theorem dX7_fell_36 : decode cX7_fell 36 = .ok (.iload 4, 2) := by decide +kernel
theorem dX7_fell_38 : decode cX7_fell 38 = .ok (.aload_n 3, 1) := by decide +kernel
theorem dX7_fell_39 : decode cX7_fell 39 = .ok (.getfield 264, 3) := by decide +kernel
theorem dX7_fell_42 : decode cX7_fell 42 = .ok (.if_icmp .ge 6, 3) := by decide +kernel
theorem dX7_fell_45 : decode cX7_fell 45 = .ok (.bipush (-2), 2) := by decide +kernel
theorem dX7_fell_47 : decode cX7_fell 47 = .ok (.ireturn, 1) := by decide +kernel
theorem dX7_fell_48 : decode cX7_fell 48 = .ok (.aload_n 3, 1) := by decide +kernel
theorem dX7_fell_49 : decode cX7_fell 49 = .ok (.iload 4, 2) := by decide +kernel
theorem dX7_fell_51 : decode cX7_fell 51 = .ok (.invokevirtual 267, 3) := by decide +kernel
theorem dX7_fell_54 : decode cX7_fell 54 = .ok (.istore 5, 2) := by decide +kernel
theorem dX7_fell_56 : decode cX7_fell 56 = .ok (.iload 5, 2) := by decide +kernel
theorem dX7_fell_58 : decode cX7_fell 58 = .ok (.ifCond .le 10, 3) := by decide +kernel
theorem dX7_fell_61 : decode cX7_fell 61 = .ok (.aload_n 3, 1) := by decide +kernel
theorem dX7_fell_62 : decode cX7_fell 62 = .ok (.getfield 112, 3) := by decide +kernel
theorem dX7_fell_65 : decode cX7_fell 65 = .ok (.ifCond .gt 6, 3) := by decide +kernel
theorem dX7_fell_68 : decode cX7_fell 68 = .ok (.bipush (-4), 2) := by decide +kernel
theorem dX7_fell_70 : decode cX7_fell 70 = .ok (.ireturn, 1) := by decide +kernel
theorem dX7_fell_71 : decode cX7_fell 71 = .ok (.bipush 100, 2) := by decide +kernel
theorem dX7_fell_73 : decode cX7_fell 73 = .ok (.iload 5, 2) := by decide +kernel
theorem dX7_fell_75 : decode cX7_fell 75 = .ok (.invokestatic 119, 3) := by decide +kernel
theorem dX7_fell_78 : decode cX7_fell 78 = .ok (.iadd, 1) := by decide +kernel
theorem dX7_fell_79 : decode cX7_fell 79 = .ok (.aload_n 3, 1) := by decide +kernel
theorem dX7_fell_80 : decode cX7_fell 80 = .ok (.getfield 112, 3) := by decide +kernel
theorem dX7_fell_83 : decode cX7_fell 83 = .ok (.invokestatic 119, 3) := by decide +kernel
theorem dX7_fell_86 : decode cX7_fell 86 = .ok (.isub, 1) := by decide +kernel
theorem dX7_fell_87 : decode cX7_fell 87 = .ok (.ireturn, 1) := by decide +kernel
set_option maxRecDepth 20000 in
theorem ggX7_type_X7_isWithin : GoodIn wsX7_type wsX7_isWithin := goodIn_r _ [6] (by decide +kernel) (by decide +kernel)
set_option maxRecDepth 20000 in
theorem gX7_type_X7_isWithin : GoodIn wsX7_type (va_wsS RX7 40 yX7_isWithin wsX7_isWithin) := goodIn_app (goodIn_of _ (by decide +kernel)) ggX7_type_X7_isWithin
set_option maxRecDepth 20000 in
theorem ggX7_type_X6_append : GoodIn wsX7_type wsX6_append := goodIn_r _ [11, 12, 13, 19, 20, 21, 22, 23, 24] (by decide +kernel) (by decide +kernel)
set_option maxRecDepth 20000 in
theorem gX7_type_X6_append : GoodIn wsX7_type (wsV RX7 270 RX6 yX6_append wsX6_append) := goodIn_app (goodIn_of _ (by decide +kernel)) ggX7_type_X6_append
theorem dX7_type_0 : decode cX7_type 0 = .ok (.iload_n 1, 1) := by decide +kernel
theorem dX7_type_1 : decode cX7_type 1 = .ok (.bipush 32, 2) := by decide +kernel
theorem dX7_type_3 : decode cX7_type 3 = .ok (.bipush 126, 2) := by decide +kernel
theorem dX7_type_5 : decode cX7_type 5 = .ok (.invokestatic 40, 3) := by decide +kernel
theorem dX7_type_8 : decode cX7_type 8 = .ok (.ifCond .ne 5, 3) := by decide +kernel
theorem dX7_type_11 : decode cX7_type 11 = .ok (.iconst (-1), 1) := by decide +kernel
theorem dX7_type_12 : decode cX7_type 12 = .ok (.ireturn, 1) := by decide +kernel
theorem dX7_type_13 : decode cX7_type 13 = .ok (.aload_n 0, 1) := by decide +kernel
theorem dX7_type_14 : decode cX7_type 14 = .ok (.getfield 29, 3) := by decide +kernel
theorem dX7_type_17 : decode cX7_type 17 = .ok (.getfield 188, 3) := by decide +kernel
theorem dX7_type_20 : decode cX7_type 20 = .ok (.bipush 80, 2) := by decide +kernel
theorem dX7_type_22 : decode cX7_type 22 = .ok (.if_icmp .lt 6, 3) := by decide +kernel
theorem dX7_type_25 : decode cX7_type 25 = .ok (.bipush (-3), 2) := by decide +kernel
theorem dX7_type_27 : decode cX7_type 27 = .ok (.ireturn, 1) := by decide +kernel
theorem dX7_type_28 : decode cX7_type 28 = .ok (.aload_n 0, 1) := by decide +kernel
theorem dX7_type_29 : decode cX7_type 29 = .ok (.getfield 29, 3) := by decide +kernel
theorem dX7_type_32 : decode cX7_type 32 = .ok (.iload_n 1, 1) := by decide +kernel
theorem dX7_type_33 : decode cX7_type 33 = .ok (.i2c, 1) := by decide +kernel
theorem dX7_type_34 : decode cX7_type 34 = .ok (.invokevirtual 270, 3) := by decide +kernel
theorem dX7_type_37 : decode cX7_type 37 = .ok (.aload_n 0, 1) := by decide +kernel
theorem dX7_type_38 : decode cX7_type 38 = .ok (.getfield 29, 3) := by decide +kernel
theorem dX7_type_41 : decode cX7_type 41 = .ok (.getfield 188, 3) := by decide +kernel
theorem dX7_type_44 : decode cX7_type 44 = .ok (.ireturn, 1) := by decide +kernel
theorem dX7_clearText_0 : decode cX7_clearText 0 = .ok (.aload_n 0, 1) := by decide +kernel
theorem dX7_clearText_1 : decode cX7_clearText 1 = .ok (.getfield 29, 3) := by decide +kernel
theorem dX7_clearText_4 : decode cX7_clearText 4 = .ok (.getfield 188, 3) := by decide +kernel
theorem dX7_clearText_7 : decode cX7_clearText 7 = .ok (.istore_n 1, 1) := by decide +kernel
theorem dX7_clearText_8 : decode cX7_clearText 8 = .ok (.aload_n 0, 1) := by decide +kernel
theorem dX7_clearText_9 : decode cX7_clearText 9 = .ok (.getfield 29, 3) := by decide +kernel
theorem dX7_clearText_12 : decode cX7_clearText 12 = .ok (.iconst 0, 1) := by decide +kernel
theorem dX7_clearText_13 : decode cX7_clearText 13 = .ok (.putfield 188, 3) := by decide +kernel
theorem dX7_clearText_16 : decode cX7_clearText 16 = .ok (.iload_n 1, 1) := by decide +kernel
theorem dX7_clearText_17 : decode cX7_clearText 17 = .ok (.ireturn, 1) := by decide +kernel
set_option maxRecDepth 20000 in
theorem ggX7_fault_X7_isWithin : GoodIn wsX7_fault wsX7_isWithin := goodIn_r _ [8] (by decide +kernel) (by decide +kernel)
set_option maxRecDepth 20000 in
theorem gX7_fault_X7_isWithin : GoodIn wsX7_fault (va_wsS RX7 40 yX7_isWithin wsX7_isWithin) := goodIn_app (goodIn_of _ (by decide +kernel)) ggX7_fault_X7_isWithin
set_option maxRecDepth 20000 in
theorem ggX7_fault_X6_check : GoodIn wsX7_fault wsX6_check := goodIn_r _ [13, 14, 15, 16, 17, 18, 19, 20, 21, 12, 22, 23, 24, 25, 26, 27, 28, 29, 30, 31, 32, 33, 34, 35, 36, 37, 38, 39, 40, 41, 42, 43, 44, 45, 46, 47, 48, 49, 50, 51, 52, 53, 54, 55, 56, 57, 58, 59, 60, 61, 62, 63, 64, 65, 66, 67, 68, 69, 70, 71, 72, 73, 74, 75, 76, 77, 78, 79, 80, 81, 82, 83, 84, 85, 6, 7, 8, 86, 87, 88, 89, 95, 96, 97, 98, 99, 100, 101, 102, 103, 104, 105, 106, 107, 108, 109, 110, 111, 112, 113, 114, 115, 116, 117] (by decide +kernel) (by decide +kernel)
set_option maxRecDepth 20000 in
theorem gX7_fault_X6_check : GoodIn wsX7_fault (wsV RX7 274 RX6 yX6_check wsX6_check) := goodIn_app (goodIn_of _ (by decide +kernel)) ggX7_fault_X6_check
theorem dX7_fault_0 : decode cX7_fault 0 = .ok (.iload_n 1, 1) := by decide +kernel
theorem dX7_fault_1 : decode cX7_fault 1 = .ok (.iconst 0, 1) := by decide +kernel
theorem dX7_fault_2 : decode cX7_fault 2 = .ok (.iconst 1, 1) := by decide +kernel
theorem dX7_fault_3 : decode cX7_fault 3 = .ok (.invokestatic 40, 3) := by decide +kernel
theorem dX7_fault_6 : decode cX7_fault 6 = .ok (.ifCond .ne 5, 3) := by decide +kernel
theorem dX7_fault_9 : decode cX7_fault 9 = .ok (.iconst (-1), 1) := by decide +kernel
theorem dX7_fault_10 : decode cX7_fault 10 = .ok (.ireturn, 1) := by decide +kernel
theorem dX7_fault_11 : decode cX7_fault 11 = .ok (.aload_n 0, 1) := by decide +kernel
theorem dX7_fault_12 : decode cX7_fault 12 = .ok (.getfield 29, 3) := by decide +kernel
theorem dX7_fault_15 : decode cX7_fault 15 = .ok (.aload_n 0, 1) := by decide +kernel
theorem dX7_fault_16 : decode cX7_fault 16 = .ok (.getfield 10, 3) := by decide +kernel
theorem dX7_fault_19 : decode cX7_fault 19 = .ok (.invokevirtual 274, 3) := by decide +kernel
theorem dX7_fault_22 : decode cX7_fault 22 = .ok (.aload_n 0, 1) := by decide +kernel
theorem dX7_fault_23 : decode cX7_fault 23 = .ok (.getfield 29, 3) := by decide +kernel
theorem dX7_fault_26 : decode cX7_fault 26 = .ok (.getfield 277, 3) := by decide +kernel
theorem dX7_fault_29 : decode cX7_fault 29 = .ok (.ifCond .ne 6, 3) := by decide +kernel
theorem dX7_fault_32 : decode cX7_fault 32 = .ok (.bipush (-4), 2) := by decide +kernel
theorem dX7_fault_34 : decode cX7_fault 34 = .ok (.ireturn, 1) := by decide +kernel
theorem dX7_fault_35 : decode cX7_fault 35 = .ok (.iload_n 1, 1) := by decide +kernel
theorem dX7_fault_36 : decode cX7_fault 36 = .ok (.ifCond .ne 13, 3) := by decide +kernel
theorem dX7_fault_39 : decode cX7_fault 39 = .ok (.aload_n 0, 1) := by decide +kernel
theorem dX7_fault_40 : decode cX7_fault 40 = .ok (.getfield 29, 3) := by decide +kernel
theorem dX7_fault_43 : decode cX7_fault 43 = .ok (.getfield 280, 3) := by decide +kernel
theorem dX7_fault_46 : decode cX7_fault 46 = .ok (.goto 10, 3) := by decide +kernel
theorem dX7_fault_49 : decode cX7_fault 49 = .ok (.aload_n 0, 1) := by decide +kernel
theorem dX7_fault_50 : decode cX7_fault 50 = .ok (.getfield 29, 3) := by decide +kernel
theorem dX7_fault_53 : decode cX7_fault 53 = .ok (.getfield 277, 3) := by decide +kernel
theorem dX7_fault_56 : decode cX7_fault 56 = .ok (.ireturn, 1) := by decide +kernel
set_option maxRecDepth 20000 in
theorem ggX7_load_X6_check : GoodIn wsX7_load wsX6_check := goodIn_r _ [9, 10, 11, 12, 13, 14, 15, 16, 17, 8, 18, 19, 20, 21, 22, 23, 24, 25, 26, 27, 28, 29, 30, 31, 32, 33, 34, 35, 36, 37, 38, 39, 40, 41, 42, 43, 44, 45, 46, 47, 48, 49, 50, 51, 52, 53, 54, 55, 56, 57, 58, 59, 60, 61, 62, 63, 64, 65, 66, 67, 68, 69, 70, 71, 72, 73, 74, 75, 76, 77, 78, 79, 80, 81, 82, 83, 84, 85, 86, 87, 88, 172, 173, 174, 175, 176, 177, 178, 179, 180, 181, 182, 183, 184, 185, 186, 187, 188, 189, 190, 191, 192, 193, 194] (by decide +kernel) (by decide +kernel)
set_option maxRecDepth 20000 in
theorem gX7_load_X6_check : GoodIn wsX7_load (wsV RX7 274 RX6 yX6_check wsX6_check) := goodIn_app (goodIn_of _ (by decide +kernel)) ggX7_load_X6_check
set_option maxRecDepth 20000 in
theorem ggX7_load_X2_record : GoodIn wsX7_load wsX2_record := goodIn_r _ [93, 94, 95, 96, 97, 98, 92, 99, 100, 101, 102, 72, 103, 75, 81, 104, 105, 106, 107, 108, 109, 74, 80, 110, 111, 112, 113, 114, 115, 116, 117, 118, 119, 120, 121, 122, 123, 124, 125, 126, 127, 128, 129, 130, 131, 132, 133, 134, 135, 136, 137, 138, 139, 140, 141, 142, 143, 144, 145, 146, 147, 148, 149, 150, 151, 39, 152, 41, 43, 42, 44, 45, 195, 196, 183, 184, 185, 186, 187, 188, 189, 190, 191, 192, 197, 198, 199, 200, 201, 202, 203, 204, 205, 206, 207, 208, 209, 210, 211, 212, 213, 193, 194, 178, 179, 180, 181, 182] (by decide +kernel) (by decide +kernel)
set_option maxRecDepth 20000 in
theorem gX7_load_X2_record : GoodIn wsX7_load (wsV RX7 48 RX2 yX2_record wsX2_record) := goodIn_app (goodIn_of _ (by decide +kernel)) ggX7_load_X2_record
set_option maxRecDepth 20000 in
theorem ggX7_load_X6_giveTo : GoodIn wsX7_load wsX6_giveTo := goodIn_r _ [156, 11, 12, 14, 15, 16, 17, 8, 18, 19, 20, 21, 22, 23, 24, 25, 26, 27, 28, 29, 30, 31, 32, 33, 34, 35, 36, 37, 38, 39, 40, 41, 42, 43, 44, 45, 46, 47, 48, 49, 50, 51, 52, 53, 157, 158, 159, 72, 160, 104, 112, 161, 162, 163, 145, 164, 147, 148, 165, 149, 150, 151, 152, 166, 86, 87, 88, 172, 173, 174, 175, 176, 177, 178, 179, 180, 181, 182, 183, 184, 185, 186, 187, 188, 189, 190, 191, 192, 193, 194] (by decide +kernel) (by decide +kernel)
set_option maxRecDepth 20000 in
theorem gX7_load_X6_giveTo : GoodIn wsX7_load (wsV RX7 283 RX6 yX6_giveTo wsX6_giveTo) := goodIn_app (goodIn_of _ (by decide +kernel)) ggX7_load_X6_giveTo
theorem dX7_load_0 : decode cX7_load 0 = .ok (.aload_n 0, 1) := by decide +kernel
theorem dX7_load_1 : decode cX7_load 1 = .ok (.getfield 29, 3) := by decide +kernel
theorem dX7_load_4 : decode cX7_load 4 = .ok (.aload_n 0, 1) := by decide +kernel
theorem dX7_load_5 : decode cX7_load 5 = .ok (.getfield 10, 3) := by decide +kernel
theorem dX7_load_8 : decode cX7_load 8 = .ok (.invokevirtual 274, 3) := by decide +kernel
theorem dX7_load_11 : decode cX7_load 11 = .ok (.aload_n 0, 1) := by decide +kernel
theorem dX7_load_12 : decode cX7_load 12 = .ok (.getfield 29, 3) := by decide +kernel
theorem dX7_load_15 : decode cX7_load 15 = .ok (.getfield 277, 3) := by decide +kernel
theorem dX7_load_18 : decode cX7_load 18 = .ok (.ifCond .eq 6, 3) := by decide +kernel
theorem dX7_load_21 : decode cX7_load 21 = .ok (.bipush (-2), 2) := by decide +kernel
theorem dX7_load_23 : decode cX7_load 23 = .ok (.ireturn, 1) := by decide +kernel
theorem dX7_load_24 : decode cX7_load 24 = .ok (.aload_n 0, 1) := by decide +kernel
theorem dX7_load_25 : decode cX7_load 25 = .ok (.getfield 22, 3) := by decide +kernel
theorem dX7_load_28 : decode cX7_load 28 = .ok (.aload_n 0, 1) := by decide +kernel
theorem dX7_load_29 : decode cX7_load 29 = .ok (.getfield 10, 3) := by decide +kernel
theorem dX7_load_32 : decode cX7_load 32 = .ok (.invokevirtual 48, 3) := by decide +kernel
theorem dX7_load_35 : decode cX7_load 35 = .ok (.aload_n 0, 1) := by decide +kernel
theorem dX7_load_36 : decode cX7_load 36 = .ok (.getfield 29, 3) := by decide +kernel
theorem dX7_load_39 : decode cX7_load 39 = .ok (.aload_n 0, 1) := by decide +kernel
theorem dX7_load_40 : decode cX7_load 40 = .ok (.getfield 10, 3) := by decide +kernel
theorem dX7_load_43 : decode cX7_load 43 = .ok (.invokevirtual 283, 3) := by decide +kernel
theorem dX7_load_46 : decode cX7_load 46 = .ok (.ireturn, 1) := by decide +kernel
theorem dX7_isWithin_0 : decode cX7_isWithin 0 = .ok (.iload_n 0, 1) := by decide +kernel
theorem dX7_isWithin_1 : decode cX7_isWithin 1 = .ok (.iload_n 1, 1) := by decide +kernel
theorem dX7_isWithin_2 : decode cX7_isWithin 2 = .ok (.if_icmp .lt 12, 3) := by decide +kernel
theorem dX7_isWithin_5 : decode cX7_isWithin 5 = .ok (.iload_n 0, 1) := by decide +kernel
theorem dX7_isWithin_6 : decode cX7_isWithin 6 = .ok (.iload_n 2, 1) := by decide +kernel
theorem dX7_isWithin_7 : decode cX7_isWithin 7 = .ok (.if_icmp .gt 7, 3) := by decide +kernel
theorem dX7_isWithin_10 : decode cX7_isWithin 10 = .ok (.iconst 1, 1) := by decide +kernel
theorem dX7_isWithin_11 : decode cX7_isWithin 11 = .ok (.goto 4, 3) := by decide +kernel
theorem dX7_isWithin_14 : decode cX7_isWithin 14 = .ok (.iconst 0, 1) := by decide +kernel
theorem dX7_isWithin_15 : decode cX7_isWithin 15 = .ok (.ireturn, 1) := by decide +kernel
theorem dX7_levelOf_0 : decode cX7_levelOf 0 = .ok (.iconst 0, 1) := by decide +kernel
theorem dX7_levelOf_1 : decode cX7_levelOf 1 = .ok (.istore_n 1, 1) := by decide +kernel
theorem dX7_levelOf_2 : decode cX7_levelOf 2 = .ok (.iconst 1, 1) := by decide +kernel
theorem dX7_levelOf_3 : decode cX7_levelOf 3 = .ok (.istore_n 2, 1) := by decide +kernel
theorem dX7_levelOf_4 : decode cX7_levelOf 4 = .ok (.iload_n 2, 1) := by decide +kernel
theorem dX7_levelOf_5 : decode cX7_levelOf 5 = .ok (.bipush 31, 2) := by decide +kernel
theorem dX7_levelOf_7 : decode cX7_levelOf 7 = .ok (.if_icmp .ge 17, 3) := by decide +kernel
theorem dX7_levelOf_10 : decode cX7_levelOf 10 = .ok (.iload_n 0, 1) := by decide +kernel
theorem dX7_levelOf_11 : decode cX7_levelOf 11 = .ok (.iload_n 2, 1) := by decide +kernel
theorem dX7_levelOf_12 : decode cX7_levelOf 12 = .ok (.ishr, 1) := by decide +kernel
theorem dX7_levelOf_13 : decode cX7_levelOf 13 = .ok (.ifCond .le 5, 3) := by decide +kernel
theorem dX7_levelOf_16 : decode cX7_levelOf 16 = .ok (.iload_n 2, 1) := by decide +kernel
theorem dX7_levelOf_17 : decode cX7_levelOf 17 = .ok (.istore_n 1, 1) := by decide +kernel
theorem dX7_levelOf_18 : decode cX7_levelOf 18 = .ok (.iinc 2 1, 3) := by decide +kernel
theorem dX7_levelOf_21 : decode cX7_levelOf 21 = .ok (.goto (-17), 3) := by decide +kernel
theorem dX7_levelOf_24 : decode cX7_levelOf 24 = .ok (.iload_n 1, 1) := by decide +kernel
theorem dX7_levelOf_25 : decode cX7_levelOf 25 = .ok (.ireturn, 1) := by decide +kernel
set_option maxRecDepth 20000 in
theorem ggX7_isRoomOrOutside_X3_roomAt : GoodIn wsX7_isRoomOrOutside wsX3_roomAt := goodIn_r _ [6, 7, 8, 14, 15, 16, 17, 18, 19, 20, 21, 22, 23] (by decide +kernel) (by decide +kernel)
set_option maxRecDepth 20000 in
theorem gX7_isRoomOrOutside_X3_roomAt : GoodIn wsX7_isRoomOrOutside (wsV RX7 56 RX3 yX3_roomAt wsX3_roomAt) := goodIn_app (goodIn_of _ (by decide +kernel)) ggX7_isRoomOrOutside_X3_roomAt
theorem dX7_isRoomOrOutside_0 : decode cX7_isRoomOrOutside 0 = .ok (.iload_n 1, 1) := by decide +kernel
theorem dX7_isRoomOrOutside_1 : decode cX7_isRoomOrOutside 1 = .ok (.bipush 8, 2) := by decide +kernel
theorem dX7_isRoomOrOutside_3 : decode cX7_isRoomOrOutside 3 = .ok (.if_icmp .eq 14, 3) := by decide +kernel
theorem dX7_isRoomOrOutside_6 : decode cX7_isRoomOrOutside 6 = .ok (.aload_n 0, 1) := by decide +kernel
theorem dX7_isRoomOrOutside_7 : decode cX7_isRoomOrOutside 7 = .ok (.getfield 10, 3) := by decide +kernel
theorem dX7_isRoomOrOutside_10 : decode cX7_isRoomOrOutside 10 = .ok (.iload_n 1, 1) := by decide +kernel
theorem dX7_isRoomOrOutside_11 : decode cX7_isRoomOrOutside 11 = .ok (.invokevirtual 56, 3) := by decide +kernel
theorem dX7_isRoomOrOutside_14 : decode cX7_isRoomOrOutside 14 = .ok (.ifnull 7, 3) := by decide +kernel
theorem dX7_isRoomOrOutside_17 : decode cX7_isRoomOrOutside 17 = .ok (.iconst 1, 1) := by decide +kernel
theorem dX7_isRoomOrOutside_18 : decode cX7_isRoomOrOutside 18 = .ok (.goto 4, 3) := by decide +kernel
theorem dX7_isRoomOrOutside_21 : decode cX7_isRoomOrOutside 21 = .ok (.iconst 0, 1) := by decide +kernel
theorem dX7_isRoomOrOutside_22 : decode cX7_isRoomOrOutside 22 = .ok (.ireturn, 1) := by decide +kernel
set_option maxRecDepth 20000 in
theorem ggX7_lookAheadWithoutSounds_X3_copyFrom : GoodIn wsX7_lookAheadWithoutSounds wsX3_copyFrom := goodIn_r _ [8, 9, 10, 11, 12, 13, 14, 15, 16, 17, 18, 19, 20, 21, 22, 23, 24, 25, 26, 27, 28, 29, 30, 31, 32, 33, 34, 35, 36, 37, 38, 39, 40, 41, 42, 43, 44, 45, 46, 47, 48, 49, 50, 51, 52, 53, 54, 55, 56, 57, 58, 59, 60, 61, 62, 63, 64, 65, 66, 67, 86, 87, 88, 89, 90, 91, 92, 93, 94, 95, 96, 97, 98, 99, 100, 101, 102, 103, 104, 105, 106, 107, 108, 109, 110, 111, 112, 113, 114, 115, 116, 117, 118, 119] (by decide +kernel) (by decide +kernel)
set_option maxRecDepth 20000 in
theorem gX7_lookAheadWithoutSounds_X3_copyFrom : GoodIn wsX7_lookAheadWithoutSounds (wsV RX7 258 RX3 yX3_copyFrom wsX3_copyFrom) := goodIn_app (goodIn_of _ (by decide +kernel)) ggX7_lookAheadWithoutSounds_X3_copyFrom
set_option maxRecDepth 20000 in
theorem ggX7_lookAheadWithoutSounds_X4_dropSounds : GoodIn wsX7_lookAheadWithoutSounds wsX4_dropSounds := goodIn_r _ [71, 56, 72, 73, 74, 75, 54, 76, 57, 77, 78, 79, 80, 113, 114, 115, 116, 117, 118, 119] (by decide +kernel) (by decide +kernel)
set_option maxRecDepth 20000 in
theorem gX7_lookAheadWithoutSounds_X4_dropSounds : GoodIn wsX7_lookAheadWithoutSounds (wsV RX7 287 RX4 yX4_dropSounds wsX4_dropSounds) := goodIn_app (goodIn_of _ (by decide +kernel)) ggX7_lookAheadWithoutSounds_X4_dropSounds
theorem dX7_lookAheadWithoutSounds_0 : decode cX7_lookAheadWithoutSounds 0 = .ok (.aload_n 0, 1) := by decide +kernel
theorem dX7_lookAheadWithoutSounds_1 : decode cX7_lookAheadWithoutSounds 1 = .ok (.getfield 16, 3) := by decide +kernel
theorem dX7_lookAheadWithoutSounds_4 : decode cX7_lookAheadWithoutSounds 4 = .ok (.aload_n 0, 1) := by decide +kernel
theorem dX7_lookAheadWithoutSounds_5 : decode cX7_lookAheadWithoutSounds 5 = .ok (.getfield 10, 3) := by decide +kernel
theorem dX7_lookAheadWithoutSounds_8 : decode cX7_lookAheadWithoutSounds 8 = .ok (.invokevirtual 258, 3) := by decide +kernel
theorem dX7_lookAheadWithoutSounds_11 : decode cX7_lookAheadWithoutSounds 11 = .ok (.aload_n 0, 1) := by decide +kernel
theorem dX7_lookAheadWithoutSounds_12 : decode cX7_lookAheadWithoutSounds 12 = .ok (.getfield 16, 3) := by decide +kernel
theorem dX7_lookAheadWithoutSounds_15 : decode cX7_lookAheadWithoutSounds 15 = .ok (.getfield 132, 3) := by decide +kernel
theorem dX7_lookAheadWithoutSounds_18 : decode cX7_lookAheadWithoutSounds 18 = .ok (.invokevirtual 287, 3) := by decide +kernel
theorem dX7_lookAheadWithoutSounds_21 : decode cX7_lookAheadWithoutSounds 21 = .ok (.return_, 1) := by decide +kernel
set_option maxRecDepth 20000 in
theorem ggX7_tailIfAimed_X7_lookAheadWithoutSounds : GoodIn wsX7_tailIfAimed wsX7_lookAheadWithoutSounds := goodIn_r _ [6, 1, 7, 8, 9, 10, 11, 12, 13, 14, 15, 16, 17, 18, 19, 20, 21, 22, 23, 24, 25, 26, 27, 28, 29, 30, 31, 32, 33, 34, 35, 36, 37, 38, 39, 40, 41, 42, 43, 44, 45, 46, 47, 48, 49, 50, 51, 52, 53, 54, 55, 56, 57, 58, 59, 60, 61, 62, 63, 64, 65, 66, 67, 68, 69, 70, 71, 72, 73, 74, 75, 76, 77, 78, 79, 80, 81, 82, 83, 84, 85, 214, 215, 216, 217, 218, 219, 220, 221, 222, 223, 224, 225, 226, 227, 228, 229, 230, 231, 232, 233, 234, 235, 236, 237, 238, 239, 240, 241, 242, 243, 244, 245, 246, 247, 248, 249, 250, 251, 252] (by decide +kernel) (by decide +kernel)
set_option maxRecDepth 20000 in
theorem gX7_tailIfAimed_X7_lookAheadWithoutSounds : GoodIn wsX7_tailIfAimed (wsV RX7 242 RX7 yX7_lookAheadWithoutSounds wsX7_lookAheadWithoutSounds) := goodIn_app (goodIn_of _ (by decide +kernel)) ggX7_tailIfAimed_X7_lookAheadWithoutSounds
set_option maxRecDepth 20000 in
theorem ggX7_tailIfAimed_X3_doorAt : GoodIn wsX7_tailIfAimed wsX3_doorAt := goodIn_r _ [89, 23, 15, 219, 220, 221, 222, 223, 224, 225, 226, 227, 228] (by decide +kernel) (by decide +kernel)
set_option maxRecDepth 20000 in
theorem gX7_tailIfAimed_X3_doorAt : GoodIn wsX7_tailIfAimed (wsV RX7 75 RX3 yX3_doorAt wsX3_doorAt) := goodIn_app (goodIn_of _ (by decide +kernel)) ggX7_tailIfAimed_X3_doorAt
set_option maxRecDepth 20000 in
theorem ggX7_tailIfAimed_X0_aimAt : GoodIn wsX7_tailIfAimed wsX0_aimAt := goodIn_r _ [93, 51, 50, 236, 237, 238, 239, 240, 241, 242, 243, 244, 245] (by decide +kernel) (by decide +kernel)
set_option maxRecDepth 20000 in
theorem gX7_tailIfAimed_X0_aimAt : GoodIn wsX7_tailIfAimed (wsV RX7 88 RX0 yX0_aimAt wsX0_aimAt) := goodIn_app (goodIn_of _ (by decide +kernel)) ggX7_tailIfAimed_X0_aimAt
set_option maxRecDepth 20000 in
theorem ggX7_tailIfAimed_X7_tailAhead : GoodIn wsX7_tailIfAimed wsX7_tailAhead := goodIn_r _ [97, 1, 98, 99, 100, 12, 101, 102, 103, 104, 105, 106, 22, 14, 107, 108, 109, 110, 24, 16, 111, 112, 113, 31, 114, 39, 35, 115, 116, 117, 118, 119, 120, 121, 122, 123, 124, 125, 126, 79, 80, 59, 81, 61, 62, 127, 128, 129, 66, 130, 68, 69, 131, 87, 88, 89, 23, 15, 132, 91, 92, 44, 93, 51, 50, 133, 134, 135, 136, 137, 138, 27, 139, 140, 141, 142, 49, 47, 143, 144, 145, 146, 147, 148, 149, 150, 151, 152, 153, 154, 155, 156, 157, 158, 71, 159, 160, 161, 162, 163, 164, 165, 166, 167, 37, 168, 169, 170, 171, 78, 172, 173, 174, 175, 82, 83, 84, 85, 176, 177, 178, 179, 34, 180, 181, 36, 182, 183, 184, 185, 186, 187, 188, 189, 190, 191, 192, 193, 194, 33, 195, 196, 197, 198, 199, 200, 201, 54, 55, 48, 202, 203, 204, 205, 206, 207, 208, 209, 25, 210, 211, 212, 213, 214, 215, 216, 217, 218, 229, 230, 231, 232, 233, 234, 235, 219, 220, 221, 222, 223, 224, 225, 226, 227, 228, 246, 247, 248, 249, 250, 251, 252, 236, 237, 238, 239, 240, 241, 242, 243, 244, 245] (by decide +kernel) (by decide +kernel)
set_option maxRecDepth 20000 in
theorem gX7_tailIfAimed_X7_tailAhead : GoodIn wsX7_tailIfAimed (wsV RX7 245 RX7 yX7_tailAhead wsX7_tailAhead) := goodIn_app (goodIn_of _ (by decide +kernel)) ggX7_tailIfAimed_X7_tailAhead
theorem dX7_tailIfAimed_0 : decode cX7_tailIfAimed 0 = .ok (.aload_n 0, 1) := by decide +kernel
theorem dX7_tailIfAimed_1 : decode cX7_tailIfAimed 1 = .ok (.invokevirtual 242, 3) := by decide +kernel
theorem dX7_tailIfAimed_4 : decode cX7_tailIfAimed 4 = .ok (.aload_n 0, 1) := by decide +kernel
theorem dX7_tailIfAimed_5 : decode cX7_tailIfAimed 5 = .ok (.getfield 16, 3) := by decide +kernel
theorem dX7_tailIfAimed_8 : decode cX7_tailIfAimed 8 = .ok (.iload_n 2, 1) := by decide +kernel
theorem dX7_tailIfAimed_9 : decode cX7_tailIfAimed 9 = .ok (.invokevirtual 75, 3) := by decide +kernel
theorem dX7_tailIfAimed_12 : decode cX7_tailIfAimed 12 = .ok (.astore 5, 2) := by decide +kernel
theorem dX7_tailIfAimed_14 : decode cX7_tailIfAimed 14 = .ok (.aload 5, 2) := by decide +kernel
theorem dX7_tailIfAimed_16 : decode cX7_tailIfAimed 16 = .ok (.ifnull 9, 3) := by decide +kernel
theorem dX7_tailIfAimed_19 : decode cX7_tailIfAimed 19 = .ok (.aload 5, 2) := by decide +kernel
theorem dX7_tailIfAimed_21 : decode cX7_tailIfAimed 21 = .ok (.iload_n 3, 1) := by decide +kernel
theorem dX7_tailIfAimed_22 : decode cX7_tailIfAimed 22 = .ok (.invokevirtual 88, 3) := by decide +kernel
theorem dX7_tailIfAimed_25 : decode cX7_tailIfAimed 25 = .ok (.aload_n 0, 1) := by decide +kernel
theorem dX7_tailIfAimed_26 : decode cX7_tailIfAimed 26 = .ok (.iload_n 1, 1) := by decide +kernel
theorem dX7_tailIfAimed_27 : decode cX7_tailIfAimed 27 = .ok (.iload 4, 2) := by decide +kernel
theorem dX7_tailIfAimed_29 : decode cX7_tailIfAimed 29 = .ok (.invokevirtual 245, 3) := by decide +kernel
theorem dX7_tailIfAimed_32 : decode cX7_tailIfAimed 32 = .ok (.ireturn, 1) := by decide +kernel
set_option maxRecDepth 20000 in
theorem ggX7_tailAhead_X3_energyIn : GoodIn wsX7_tailAhead wsX3_energyIn := goodIn_r _ [6, 7, 8, 9, 10, 5, 11, 12, 13, 168, 169, 170, 171, 172, 173, 174, 175, 176, 177, 178, 179, 180, 181, 182, 183, 184] (by decide +kernel) (by decide +kernel)
set_option maxRecDepth 20000 in
theorem gX7_tailAhead_X3_energyIn : GoodIn wsX7_tailAhead (wsV RX7 255 RX3 yX3_energyIn wsX3_energyIn) := goodIn_app (goodIn_of _ (by decide +kernel)) ggX7_tailAhead_X3_energyIn
set_option maxRecDepth 20000 in
theorem ggX7_tailAhead_X3_goOn : GoodIn wsX7_tailAhead wsX3_goOn := goodIn_r _ [17, 12, 13, 18, 19, 20, 21, 22, 23, 24, 25, 26, 27, 28, 29, 30, 31, 32, 33, 5, 34, 35, 36, 37, 38, 39, 40, 41, 42, 43, 44, 45, 46, 47, 48, 49, 50, 51, 52, 53, 54, 55, 56, 57, 58, 59, 60, 61, 62, 63, 64, 65, 66, 67, 68, 69, 70, 71, 72, 73, 74, 75, 76, 77, 78, 79, 80, 81, 82, 83, 84, 85, 86, 87, 88, 89, 90, 91, 92, 93, 94, 95, 96, 97, 98, 99, 8, 9, 10, 11, 100, 101, 102, 103, 104, 105, 106, 107, 108, 109, 110, 111, 112, 113, 114, 115, 116, 117, 118, 119, 120, 121, 122, 123, 124, 125, 126, 127, 128, 129, 130, 7, 131, 132, 133, 134, 135, 136, 137, 138, 139, 140, 141, 142, 143, 144, 145, 146, 147, 148, 149, 150, 151, 152, 153, 154, 155, 156, 157, 158, 159, 160, 161, 162, 175, 176, 177, 178, 179, 180, 181, 182, 183, 184, 168, 169, 170, 171, 172, 173, 174, 185, 186, 187, 188, 189, 190, 191, 192, 193, 194, 195, 196, 197, 198, 199, 200, 201] (by decide +kernel) (by decide +kernel)
set_option maxRecDepth 20000 in
theorem gX7_tailAhead_X3_goOn : GoodIn wsX7_tailAhead (wsV RX7 236 RX3 yX3_goOn wsX3_goOn) := goodIn_app (goodIn_of _ (by decide +kernel)) ggX7_tailAhead_X3_goOn
theorem dX7_tailAhead_0 : decode cX7_tailAhead 0 = .ok (.aload_n 0, 1) := by decide +kernel
theorem dX7_tailAhead_1 : decode cX7_tailAhead 1 = .ok (.getfield 16, 3) := by decide +kernel
theorem dX7_tailAhead_4 : decode cX7_tailAhead 4 = .ok (.iload_n 1, 1) := by decide +kernel
theorem dX7_tailAhead_5 : decode cX7_tailAhead 5 = .ok (.invokevirtual 255, 3) := by decide +kernel
theorem dX7_tailAhead_8 : decode cX7_tailAhead 8 = .ok (.sipush 1000, 3) := by decide +kernel
theorem dX7_tailAhead_11 : decode cX7_tailAhead 11 = .ok (.idiv, 1) := by decide +kernel
theorem dX7_tailAhead_12 : decode cX7_tailAhead 12 = .ok (.istore_n 3, 1) := by decide +kernel
theorem dX7_tailAhead_13 : decode cX7_tailAhead 13 = .ok (.iconst 1, 1) := by decide +kernel
theorem dX7_tailAhead_14 : decode cX7_tailAhead 14 = .ok (.istore 4, 2) := by decide +kernel
theorem dX7_tailAhead_16 : decode cX7_tailAhead 16 = .ok (.iload 4, 2) := by decide +kernel
theorem dX7_tailAhead_18 : decode cX7_tailAhead 18 = .ok (.iload_n 2, 1) := by decide +kernel
theorem dX7_tailAhead_19 : decode cX7_tailAhead 19 = .ok (.if_icmp .gt 31, 3) := by decide +kernel
theorem dX7_tailAhead_22 : decode cX7_tailAhead 22 = .ok (.aload_n 0, 1) := by decide +kernel
theorem dX7_tailAhead_23 : decode cX7_tailAhead 23 = .ok (.getfield 16, 3) := by decide +kernel
theorem dX7_tailAhead_26 : decode cX7_tailAhead 26 = .ok (.invokevirtual 236, 3) := by decide +kernel
theorem dX7_tailAhead_29 : decode cX7_tailAhead 29 = .ok (.aload_n 0, 1) := by decide +kernel
theorem dX7_tailAhead_30 : decode cX7_tailAhead 30 = .ok (.getfield 16, 3) := by decide +kernel
theorem dX7_tailAhead_33 : decode cX7_tailAhead 33 = .ok (.iload_n 1, 1) := by decide +kernel
theorem dX7_tailAhead_34 : decode cX7_tailAhead 34 = .ok (.invokevirtual 255, 3) := by decide +kernel
theorem dX7_tailAhead_37 : decode cX7_tailAhead 37 = .ok (.iload_n 3, 1) := by decide +kernel
theorem dX7_tailAhead_38 : decode cX7_tailAhead 38 = .ok (.if_icmp .gt 6, 3) := by decide +kernel
theorem dX7_tailAhead_41 : decode cX7_tailAhead 41 = .ok (.iload 4, 2) := by decide +kernel
theorem dX7_tailAhead_43 : decode cX7_tailAhead 43 = .ok (.ireturn, 1) := by decide +kernel
theorem dX7_tailAhead_44 : decode cX7_tailAhead 44 = .ok (.iinc 4 1, 3) := by decide +kernel
theorem dX7_tailAhead_47 : decode cX7_tailAhead 47 = .ok (.goto (-31), 3) := by decide +kernel
theorem dX7_tailAhead_50 : decode cX7_tailAhead 50 = .ok (.bipush (-4), 2) := by decide +kernel
theorem dX7_tailAhead_52 : decode cX7_tailAhead 52 = .ok (.ireturn, 1) := by decide +kernel
theorem dX8_init_0 : decode cX8_init 0 = .ok (.aload_n 0, 1) := by decide +kernel
theorem dX8_init_1 : decode cX8_init 1 = .ok (.invokespecial 1, 3) := by decide +kernel
theorem dX8_init_4 : decode cX8_init 4 = .ok (.aload_n 0, 1) := by decide +kernel
theorem dX8_init_5 : decode cX8_init 5 = .ok (.sipush 657, 3) := by decide +kernel
theorem dX8_init_8 : decode cX8_init 8 = .ok (.newarray .int, 2) := by decide +kernel
theorem dX8_init_10 : decode cX8_init 10 = .ok (.putfield 7, 3) := by decide +kernel
theorem dX8_init_13 : decode cX8_init 13 = .ok (.aload_n 0, 1) := by decide +kernel
theorem dX8_init_14 : decode cX8_init 14 = .ok (.sipush 657, 3) := by decide +kernel
theorem dX8_init_17 : decode cX8_init 17 = .ok (.newarray .int, 2) := by decide +kernel
theorem dX8_init_19 : decode cX8_init 19 = .ok (.putfield 13, 3) := by decide +kernel
theorem dX8_init_22 : decode cX8_init 22 = .ok (.aload_n 0, 1) := by decide +kernel
theorem dX8_init_23 : decode cX8_init 23 = .ok (.sipush 2628, 3) := by decide +kernel
theorem dX8_init_26 : decode cX8_init 26 = .ok (.newarray .int, 2) := by decide +kernel
theorem dX8_init_28 : decode cX8_init 28 = .ok (.putfield 16, 3) := by decide +kernel
theorem dX8_init_31 : decode cX8_init 31 = .ok (.aload_n 0, 1) := by decide +kernel
theorem dX8_init_32 : decode cX8_init 32 = .ok (.bipush 80, 2) := by decide +kernel
theorem dX8_init_34 : decode cX8_init 34 = .ok (.newarray .int, 2) := by decide +kernel
theorem dX8_init_36 : decode cX8_init 36 = .ok (.putfield 19, 3) := by decide +kernel
theorem dX8_init_39 : decode cX8_init 39 = .ok (.aload_n 0, 1) := by decide +kernel
theorem dX8_init_40 : decode cX8_init 40 = .ok (.bipush 24, 2) := by decide +kernel
theorem dX8_init_42 : decode cX8_init 42 = .ok (.newarray .int, 2) := by decide +kernel
theorem dX8_init_44 : decode cX8_init 44 = .ok (.putfield 22, 3) := by decide +kernel
theorem dX8_init_47 : decode cX8_init 47 = .ok (.aload_n 0, 1) := by decide +kernel
theorem dX8_init_48 : decode cX8_init 48 = .ok (.bipush 9, 2) := by decide +kernel
theorem dX8_init_50 : decode cX8_init 50 = .ok (.newarray .int, 2) := by decide +kernel
theorem dX8_init_52 : decode cX8_init 52 = .ok (.putfield 25, 3) := by decide +kernel
theorem dX8_init_55 : decode cX8_init 55 = .ok (.aload_n 0, 1) := by decide +kernel
theorem dX8_init_56 : decode cX8_init 56 = .ok (.iconst 4, 1) := by decide +kernel
theorem dX8_init_57 : decode cX8_init 57 = .ok (.newarray .int, 2) := by decide +kernel
theorem dX8_init_59 : decode cX8_init 59 = .ok (.putfield 28, 3) := by decide +kernel
theorem dX8_init_62 : decode cX8_init 62 = .ok (.aload_n 0, 1) := by decide +kernel
theorem dX8_init_63 : decode cX8_init 63 = .ok (.getfield 7, 3) := by decide +kernel
theorem dX8_init_66 : decode cX8_init 66 = .ok (.bipush 7, 2) := by decide +kernel
theorem dX8_init_68 : decode cX8_init 68 = .ok (.ldc 31, 2) := by decide +kernel
theorem dX8_init_70 : decode cX8_init 70 = .ok (.iastore, 1) := by decide +kernel
theorem dX8_init_71 : decode cX8_init 71 = .ok (.aload_n 0, 1) := by decide +kernel
theorem dX8_init_72 : decode cX8_init 72 = .ok (.getfield 7, 3) := by decide +kernel
theorem dX8_init_75 : decode cX8_init 75 = .ok (.bipush 8, 2) := by decide +kernel
theorem dX8_init_77 : decode cX8_init 77 = .ok (.bipush 10, 2) := by decide +kernel
theorem dX8_init_79 : decode cX8_init 79 = .ok (.iastore, 1) := by decide +kernel
theorem dX8_init_80 : decode cX8_init 80 = .ok (.return_, 1) := by decide +kernel
theorem dX8_in_0 : decode cX8_in 0 = .ok (.iload_n 0, 1) := by decide +kernel
theorem dX8_in_1 : decode cX8_in 1 = .ok (.iload_n 1, 1) := by decide +kernel
theorem dX8_in_2 : decode cX8_in 2 = .ok (.if_icmp .lt 12, 3) := by decide +kernel
theorem dX8_in_5 : decode cX8_in 5 = .ok (.iload_n 0, 1) := by decide +kernel
theorem dX8_in_6 : decode cX8_in 6 = .ok (.iload_n 2, 1) := by decide +kernel
theorem dX8_in_7 : decode cX8_in 7 = .ok (.if_icmp .gt 7, 3) := by decide +kernel
theorem dX8_in_10 : decode cX8_in 10 = .ok (.iconst 1, 1) := by decide +kernel
theorem dX8_in_11 : decode cX8_in 11 = .ok (.goto 4, 3) := by decide +kernel
theorem dX8_in_14 : decode cX8_in 14 = .ok (.iconst 0, 1) := by decide +kernel
theorem dX8_in_15 : decode cX8_in 15 = .ok (.ireturn, 1) := by decide +kernel
theorem dX8_changes_0 : decode cX8_changes 0 = .ok (.aload_n 0, 1) := by decide +kernel
theorem dX8_changes_1 : decode cX8_changes 1 = .ok (.getfield 32, 3) := by decide +kernel
theorem dX8_changes_4 : decode cX8_changes 4 = .ok (.iconst 4, 1) := by decide +kernel
theorem dX8_changes_5 : decode cX8_changes 5 = .ok (.if_icmp .ne 44, 3) := by decide +kernel
theorem dX8_changes_8 : decode cX8_changes 8 = .ok (.iconst 0, 1) := by decide +kernel
theorem dX8_changes_9 : decode cX8_changes 9 = .ok (.istore_n 1, 1) := by decide +kernel
theorem dX8_changes_10 : decode cX8_changes 10 = .ok (.iload_n 1, 1) := by decide +kernel
theorem dX8_changes_11 : decode cX8_changes 11 = .ok (.sipush 1971, 3) := by decide +kernel
theorem dX8_changes_14 : decode cX8_changes 14 = .ok (.if_icmp .ge 25, 3) := by decide +kernel
theorem dX8_changes_17 : decode cX8_changes 17 = .ok (.aload_n 0, 1) := by decide +kernel
theorem dX8_changes_18 : decode cX8_changes 18 = .ok (.getfield 16, 3) := by decide +kernel
theorem dX8_changes_21 : decode cX8_changes 21 = .ok (.iload_n 1, 1) := by decide +kernel
theorem dX8_changes_22 : decode cX8_changes 22 = .ok (.aload_n 0, 1) := by decide +kernel
theorem dX8_changes_23 : decode cX8_changes 23 = .ok (.getfield 16, 3) := by decide +kernel
theorem dX8_changes_26 : decode cX8_changes 26 = .ok (.iload_n 1, 1) := by decide +kernel
theorem dX8_changes_27 : decode cX8_changes 27 = .ok (.sipush 657, 3) := by decide +kernel
theorem dX8_changes_30 : decode cX8_changes 30 = .ok (.iadd, 1) := by decide +kernel
theorem dX8_changes_31 : decode cX8_changes 31 = .ok (.iaload, 1) := by decide +kernel
theorem dX8_changes_32 : decode cX8_changes 32 = .ok (.iastore, 1) := by decide +kernel
theorem dX8_changes_33 : decode cX8_changes 33 = .ok (.iinc 1 1, 3) := by decide +kernel
theorem dX8_changes_36 : decode cX8_changes 36 = .ok (.goto (-26), 3) := by decide +kernel
theorem dX8_changes_39 : decode cX8_changes 39 = .ok (.aload_n 0, 1) := by decide +kernel
theorem dX8_changes_40 : decode cX8_changes 40 = .ok (.dup, 1) := by decide +kernel
theorem dX8_changes_41 : decode cX8_changes 41 = .ok (.getfield 32, 3) := by decide +kernel
theorem dX8_changes_44 : decode cX8_changes 44 = .ok (.iconst 1, 1) := by decide +kernel
theorem dX8_changes_45 : decode cX8_changes 45 = .ok (.isub, 1) := by decide +kernel
theorem dX8_changes_46 : decode cX8_changes 46 = .ok (.putfield 32, 3) := by decide +kernel
theorem dX8_changes_49 : decode cX8_changes 49 = .ok (.iconst 0, 1) := by decide +kernel
theorem dX8_changes_50 : decode cX8_changes 50 = .ok (.istore_n 1, 1) := by decide +kernel
theorem dX8_changes_51 : decode cX8_changes 51 = .ok (.iload_n 1, 1) := by decide +kernel
theorem dX8_changes_52 : decode cX8_changes 52 = .ok (.sipush 657, 3) := by decide +kernel
theorem dX8_changes_55 : decode cX8_changes 55 = .ok (.if_icmp .ge 30, 3) := by decide +kernel
theorem dX8_changes_58 : decode cX8_changes 58 = .ok (.aload_n 0, 1) := by decide +kernel
theorem dX8_changes_59 : decode cX8_changes 59 = .ok (.getfield 16, 3) := by decide +kernel
theorem dX8_changes_62 : decode cX8_changes 62 = .ok (.sipush 657, 3) := by decide +kernel
theorem dX8_changes_65 : decode cX8_changes 65 = .ok (.aload_n 0, 1) := by decide +kernel
theorem dX8_changes_66 : decode cX8_changes 66 = .ok (.getfield 32, 3) := by decide +kernel
theorem dX8_changes_69 : decode cX8_changes 69 = .ok (.imul, 1) := by decide +kernel
theorem dX8_changes_70 : decode cX8_changes 70 = .ok (.iload_n 1, 1) := by decide +kernel
theorem dX8_changes_71 : decode cX8_changes 71 = .ok (.iadd, 1) := by decide +kernel
theorem dX8_changes_72 : decode cX8_changes 72 = .ok (.aload_n 0, 1) := by decide +kernel
theorem dX8_changes_73 : decode cX8_changes 73 = .ok (.getfield 7, 3) := by decide +kernel
theorem dX8_changes_76 : decode cX8_changes 76 = .ok (.iload_n 1, 1) := by decide +kernel
theorem dX8_changes_77 : decode cX8_changes 77 = .ok (.iaload, 1) := by decide +kernel
