theorem dX3_energyGiven_7 : decode cX3_energyGiven 7 = .ok (.aload_n 2, 1) := by decide +kernel
theorem dX3_energyGiven_8 : decode cX3_energyGiven 8 = .ok (.arraylength, 1) := by decide +kernel
theorem dX3_energyGiven_9 : decode cX3_energyGiven 9 = .ok (.istore_n 3, 1) := by decide +kernel
theorem dX3_energyGiven_10 : decode cX3_energyGiven 10 = .ok (.iconst 0, 1) := by decide +kernel
theorem dX3_energyGiven_11 : decode cX3_energyGiven 11 = .ok (.istore 4, 2) := by decide +kernel
theorem dX3_energyGiven_13 : decode cX3_energyGiven 13 = .ok (.iload 4, 2) := by decide +kernel
theorem dX3_energyGiven_15 : decode cX3_energyGiven 15 = .ok (.iload_n 3, 1) := by decide +kernel
theorem dX3_energyGiven_16 : decode cX3_energyGiven 16 = .ok (.if_icmp .ge 23, 3) := by decide +kernel
theorem dX3_energyGiven_19 : decode cX3_energyGiven 19 = .ok (.aload_n 2, 1) := by decide +kernel
theorem dX3_energyGiven_20 : decode cX3_energyGiven 20 = .ok (.iload 4, 2) := by decide +kernel
theorem dX3_energyGiven_22 : decode cX3_energyGiven 22 = .ok (.aaload, 1) := by decide +kernel
theorem dX3_energyGiven_23 : decode cX3_energyGiven 23 = .ok (.astore 5, 2) := by decide +kernel
theorem dX3_energyGiven_25 : decode cX3_energyGiven 25 = .ok (.iload_n 1, 1) := by decide +kernel
theorem dX3_energyGiven_26 : decode cX3_energyGiven 26 = .ok (.aload 5, 2) := by decide +kernel
theorem dX3_energyGiven_28 : decode cX3_energyGiven 28 = .ok (.getfield 132, 3) := by decide +kernel
theorem dX3_energyGiven_31 : decode cX3_energyGiven 31 = .ok (.iadd, 1) := by decide +kernel
theorem dX3_energyGiven_32 : decode cX3_energyGiven 32 = .ok (.istore_n 1, 1) := by decide +kernel
theorem dX3_energyGiven_33 : decode cX3_energyGiven 33 = .ok (.iinc 4 1, 3) := by decide +kernel
theorem dX3_energyGiven_36 : decode cX3_energyGiven 36 = .ok (.goto (-23), 3) := by decide +kernel
theorem dX3_energyGiven_39 : decode cX3_energyGiven 39 = .ok (.iload_n 1, 1) := by decide +kernel
theorem dX3_energyGiven_40 : decode cX3_energyGiven 40 = .ok (.ireturn, 1) := by decide +kernel
set_option maxRecDepth 20000 in
theorem ggX3_isQuiet_X3_energyInRooms : GoodIn wsX3_isQuiet wsX3_energyInRooms := goodIn_r _ [7, 8, 9, 29, 30, 31, 32, 33, 34, 35, 36, 37, 38, 39, 40, 41, 42, 43, 44, 45] (by decide +kernel) (by decide +kernel)
set_option maxRecDepth 20000 in
theorem gX3_isQuiet_X3_energyInRooms : GoodIn wsX3_isQuiet (wsV RX3 135 RX3 yX3_energyInRooms wsX3_energyInRooms) := goodIn_app (goodIn_of _ (by decide +kernel)) ggX3_isQuiet_X3_energyInRooms
set_option maxRecDepth 20000 in
theorem ggX3_isQuiet_X3_energyOnItsWay : GoodIn wsX3_isQuiet wsX3_energyOnItsWay := goodIn_r _ [13, 14, 15, 16, 17, 18, 19, 20, 29, 30, 31, 32, 33, 34, 35, 36, 37, 38, 46, 47, 48, 49, 50, 51, 52, 53, 54, 55] (by decide +kernel) (by decide +kernel)
set_option maxRecDepth 20000 in
theorem gX3_isQuiet_X3_energyOnItsWay : GoodIn wsX3_isQuiet (wsV RX3 138 RX3 yX3_energyOnItsWay wsX3_energyOnItsWay) := goodIn_app (goodIn_of _ (by decide +kernel)) ggX3_isQuiet_X3_energyOnItsWay
set_option maxRecDepth 20000 in
theorem ggX3_isQuiet_X4_hasSound : GoodIn wsX3_isQuiet wsX4_hasSound := goodIn_r _ [25, 26, 27, 28, 56, 57, 58, 59, 60, 61, 62] (by decide +kernel) (by decide +kernel)
set_option maxRecDepth 20000 in
theorem gX3_isQuiet_X4_hasSound : GoodIn wsX3_isQuiet (wsV RX3 139 RX4 yX4_hasSound wsX4_hasSound) := goodIn_app (goodIn_of _ (by decide +kernel)) ggX3_isQuiet_X4_hasSound
theorem dX3_isQuiet_0 : decode cX3_isQuiet 0 = .ok (.aload_n 0, 1) := by decide +kernel
theorem dX3_isQuiet_1 : decode cX3_isQuiet 1 = .ok (.invokevirtual 135, 3) := by decide +kernel
theorem dX3_isQuiet_4 : decode cX3_isQuiet 4 = .ok (.aload_n 0, 1) := by decide +kernel
theorem dX3_isQuiet_5 : decode cX3_isQuiet 5 = .ok (.invokevirtual 138, 3) := by decide +kernel
theorem dX3_isQuiet_8 : decode cX3_isQuiet 8 = .ok (.iadd, 1) := by decide +kernel
theorem dX3_isQuiet_9 : decode cX3_isQuiet 9 = .ok (.aload_n 0, 1) := by decide +kernel
theorem dX3_isQuiet_10 : decode cX3_isQuiet 10 = .ok (.getfield 31, 3) := by decide +kernel
theorem dX3_isQuiet_13 : decode cX3_isQuiet 13 = .ok (.iconst 1, 1) := by decide +kernel
theorem dX3_isQuiet_14 : decode cX3_isQuiet 14 = .ok (.iaload, 1) := by decide +kernel
theorem dX3_isQuiet_15 : decode cX3_isQuiet 15 = .ok (.if_icmp .gt 17, 3) := by decide +kernel
theorem dX3_isQuiet_18 : decode cX3_isQuiet 18 = .ok (.aload_n 0, 1) := by decide +kernel
theorem dX3_isQuiet_19 : decode cX3_isQuiet 19 = .ok (.getfield 26, 3) := by decide +kernel
theorem dX3_isQuiet_22 : decode cX3_isQuiet 22 = .ok (.invokevirtual 139, 3) := by decide +kernel
theorem dX3_isQuiet_25 : decode cX3_isQuiet 25 = .ok (.ifCond .ne 7, 3) := by decide +kernel
theorem dX3_isQuiet_28 : decode cX3_isQuiet 28 = .ok (.iconst 1, 1) := by decide +kernel
theorem dX3_isQuiet_29 : decode cX3_isQuiet 29 = .ok (.goto 4, 3) := by decide +kernel
theorem dX3_isQuiet_32 : decode cX3_isQuiet 32 = .ok (.iconst 0, 1) := by decide +kernel
theorem dX3_isQuiet_33 : decode cX3_isQuiet 33 = .ok (.ireturn, 1) := by decide +kernel
theorem dX3_reachedThroughOneMoreDoor_0 : decode cX3_reachedThroughOneMoreDoor 0 = .ok (.iload_n 1, 1) := by decide +kernel
theorem dX3_reachedThroughOneMoreDoor_1 : decode cX3_reachedThroughOneMoreDoor 1 = .ok (.istore_n 2, 1) := by decide +kernel
theorem dX3_reachedThroughOneMoreDoor_2 : decode cX3_reachedThroughOneMoreDoor 2 = .ok (.aload_n 0, 1) := by decide +kernel
theorem dX3_reachedThroughOneMoreDoor_3 : decode cX3_reachedThroughOneMoreDoor 3 = .ok (.getfield 19, 3) := by decide +kernel
theorem dX3_reachedThroughOneMoreDoor_6 : decode cX3_reachedThroughOneMoreDoor 6 = .ok (.astore_n 3, 1) := by decide +kernel
theorem dX3_reachedThroughOneMoreDoor_7 : decode cX3_reachedThroughOneMoreDoor 7 = .ok (.aload_n 3, 1) := by decide +kernel
theorem dX3_reachedThroughOneMoreDoor_8 : decode cX3_reachedThroughOneMoreDoor 8 = .ok (.arraylength, 1) := by decide +kernel
theorem dX3_reachedThroughOneMoreDoor_9 : decode cX3_reachedThroughOneMoreDoor 9 = .ok (.istore 4, 2) := by decide +kernel
theorem dX3_reachedThroughOneMoreDoor_11 : decode cX3_reachedThroughOneMoreDoor 11 = .ok (.iconst 0, 1) := by decide +kernel
theorem dX3_reachedThroughOneMoreDoor_12 : decode cX3_reachedThroughOneMoreDoor 12 = .ok (.istore 5, 2) := by decide +kernel
theorem dX3_reachedThroughOneMoreDoor_14 : decode cX3_reachedThroughOneMoreDoor 14 = .ok (.iload 5, 2) := by decide +kernel
theorem dX3_reachedThroughOneMoreDoor_16 : decode cX3_reachedThroughOneMoreDoor 16 = .ok (.iload 4, 2) := by decide +kernel
theorem dX3_reachedThroughOneMoreDoor_18 : decode cX3_reachedThroughOneMoreDoor 18 = .ok (.if_icmp .ge 90, 3) := by decide +kernel
theorem dX3_reachedThroughOneMoreDoor_21 : decode cX3_reachedThroughOneMoreDoor 21 = .ok (.aload_n 3, 1) := by decide +kernel
theorem dX3_reachedThroughOneMoreDoor_22 : decode cX3_reachedThroughOneMoreDoor 22 = .ok (.iload 5, 2) := by decide +kernel
theorem dX3_reachedThroughOneMoreDoor_24 : decode cX3_reachedThroughOneMoreDoor 24 = .ok (.aaload, 1) := by decide +kernel
theorem dX3_reachedThroughOneMoreDoor_25 : decode cX3_reachedThroughOneMoreDoor 25 = .ok (.astore 6, 2) := by decide +kernel
theorem dX3_reachedThroughOneMoreDoor_27 : decode cX3_reachedThroughOneMoreDoor 27 = .ok (.aload 6, 2) := by decide +kernel
theorem dX3_reachedThroughOneMoreDoor_29 : decode cX3_reachedThroughOneMoreDoor 29 = .ok (.getfield 100, 3) := by decide +kernel
theorem dX3_reachedThroughOneMoreDoor_32 : decode cX3_reachedThroughOneMoreDoor 32 = .ok (.iconst 0, 1) := by decide +kernel
theorem dX3_reachedThroughOneMoreDoor_33 : decode cX3_reachedThroughOneMoreDoor 33 = .ok (.iaload, 1) := by decide +kernel
theorem dX3_reachedThroughOneMoreDoor_34 : decode cX3_reachedThroughOneMoreDoor 34 = .ok (.istore 7, 2) := by decide +kernel
theorem dX3_reachedThroughOneMoreDoor_36 : decode cX3_reachedThroughOneMoreDoor 36 = .ok (.aload 6, 2) := by decide +kernel
theorem dX3_reachedThroughOneMoreDoor_38 : decode cX3_reachedThroughOneMoreDoor 38 = .ok (.getfield 100, 3) := by decide +kernel
theorem dX3_reachedThroughOneMoreDoor_41 : decode cX3_reachedThroughOneMoreDoor 41 = .ok (.iconst 1, 1) := by decide +kernel
theorem dX3_reachedThroughOneMoreDoor_42 : decode cX3_reachedThroughOneMoreDoor 42 = .ok (.iaload, 1) := by decide +kernel
theorem dX3_reachedThroughOneMoreDoor_43 : decode cX3_reachedThroughOneMoreDoor 43 = .ok (.istore 8, 2) := by decide +kernel
theorem dX3_reachedThroughOneMoreDoor_45 : decode cX3_reachedThroughOneMoreDoor 45 = .ok (.aload 6, 2) := by decide +kernel
theorem dX3_reachedThroughOneMoreDoor_47 : decode cX3_reachedThroughOneMoreDoor 47 = .ok (.getfield 112, 3) := by decide +kernel
theorem dX3_reachedThroughOneMoreDoor_50 : decode cX3_reachedThroughOneMoreDoor 50 = .ok (.ifCond .le 20, 3) := by decide +kernel
theorem dX3_reachedThroughOneMoreDoor_53 : decode cX3_reachedThroughOneMoreDoor 53 = .ok (.iload_n 1, 1) := by decide +kernel
theorem dX3_reachedThroughOneMoreDoor_54 : decode cX3_reachedThroughOneMoreDoor 54 = .ok (.iload 7, 2) := by decide +kernel
theorem dX3_reachedThroughOneMoreDoor_56 : decode cX3_reachedThroughOneMoreDoor 56 = .ok (.ishr, 1) := by decide +kernel
theorem dX3_reachedThroughOneMoreDoor_57 : decode cX3_reachedThroughOneMoreDoor 57 = .ok (.iconst 1, 1) := by decide +kernel
theorem dX3_reachedThroughOneMoreDoor_58 : decode cX3_reachedThroughOneMoreDoor 58 = .ok (.iand, 1) := by decide +kernel
theorem dX3_reachedThroughOneMoreDoor_59 : decode cX3_reachedThroughOneMoreDoor 59 = .ok (.iconst 1, 1) := by decide +kernel
theorem dX3_reachedThroughOneMoreDoor_60 : decode cX3_reachedThroughOneMoreDoor 60 = .ok (.if_icmp .ne 10, 3) := by decide +kernel
theorem dX3_reachedThroughOneMoreDoor_63 : decode cX3_reachedThroughOneMoreDoor 63 = .ok (.iload_n 2, 1) := by decide +kernel
theorem dX3_reachedThroughOneMoreDoor_64 : decode cX3_reachedThroughOneMoreDoor 64 = .ok (.iconst 1, 1) := by decide +kernel
theorem dX3_reachedThroughOneMoreDoor_65 : decode cX3_reachedThroughOneMoreDoor 65 = .ok (.iload 8, 2) := by decide +kernel
theorem dX3_reachedThroughOneMoreDoor_67 : decode cX3_reachedThroughOneMoreDoor 67 = .ok (.ishl, 1) := by decide +kernel
theorem dX3_reachedThroughOneMoreDoor_68 : decode cX3_reachedThroughOneMoreDoor 68 = .ok (.ior, 1) := by decide +kernel
theorem dX3_reachedThroughOneMoreDoor_69 : decode cX3_reachedThroughOneMoreDoor 69 = .ok (.istore_n 2, 1) := by decide +kernel
theorem dX3_reachedThroughOneMoreDoor_70 : decode cX3_reachedThroughOneMoreDoor 70 = .ok (.aload 6, 2) := by decide +kernel
theorem dX3_reachedThroughOneMoreDoor_72 : decode cX3_reachedThroughOneMoreDoor 72 = .ok (.getfield 112, 3) := by decide +kernel
theorem dX3_reachedThroughOneMoreDoor_75 : decode cX3_reachedThroughOneMoreDoor 75 = .ok (.ifCond .le 27, 3) := by decide +kernel
theorem dX3_reachedThroughOneMoreDoor_78 : decode cX3_reachedThroughOneMoreDoor 78 = .ok (.iload_n 1, 1) := by decide +kernel
theorem dX3_reachedThroughOneMoreDoor_79 : decode cX3_reachedThroughOneMoreDoor 79 = .ok (.iload 8, 2) := by decide +kernel
theorem dX3_reachedThroughOneMoreDoor_81 : decode cX3_reachedThroughOneMoreDoor 81 = .ok (.ishr, 1) := by decide +kernel
theorem dX3_reachedThroughOneMoreDoor_82 : decode cX3_reachedThroughOneMoreDoor 82 = .ok (.iconst 1, 1) := by decide +kernel
theorem dX3_reachedThroughOneMoreDoor_83 : decode cX3_reachedThroughOneMoreDoor 83 = .ok (.iand, 1) := by decide +kernel
theorem dX3_reachedThroughOneMoreDoor_84 : decode cX3_reachedThroughOneMoreDoor 84 = .ok (.iconst 1, 1) := by decide +kernel
theorem dX3_reachedThroughOneMoreDoor_85 : decode cX3_reachedThroughOneMoreDoor 85 = .ok (.if_icmp .ne 17, 3) := by decide +kernel
theorem dX3_reachedThroughOneMoreDoor_88 : decode cX3_reachedThroughOneMoreDoor 88 = .ok (.iload 8, 2) := by decide +kernel
theorem dX3_reachedThroughOneMoreDoor_90 : decode cX3_reachedThroughOneMoreDoor 90 = .ok (.bipush 8, 2) := by decide +kernel
theorem dX3_reachedThroughOneMoreDoor_92 : decode cX3_reachedThroughOneMoreDoor 92 = .ok (.if_icmp .eq 10, 3) := by decide +kernel
theorem dX3_reachedThroughOneMoreDoor_95 : decode cX3_reachedThroughOneMoreDoor 95 = .ok (.iload_n 2, 1) := by decide +kernel
theorem dX3_reachedThroughOneMoreDoor_96 : decode cX3_reachedThroughOneMoreDoor 96 = .ok (.iconst 1, 1) := by decide +kernel
theorem dX3_reachedThroughOneMoreDoor_97 : decode cX3_reachedThroughOneMoreDoor 97 = .ok (.iload 7, 2) := by decide +kernel
theorem dX3_reachedThroughOneMoreDoor_99 : decode cX3_reachedThroughOneMoreDoor 99 = .ok (.ishl, 1) := by decide +kernel
theorem dX3_reachedThroughOneMoreDoor_100 : decode cX3_reachedThroughOneMoreDoor 100 = .ok (.ior, 1) := by decide +kernel
theorem dX3_reachedThroughOneMoreDoor_101 : decode cX3_reachedThroughOneMoreDoor 101 = .ok (.istore_n 2, 1) := by decide +kernel
theorem dX3_reachedThroughOneMoreDoor_102 : decode cX3_reachedThroughOneMoreDoor 102 = .ok (.iinc 5 1, 3) := by decide +kernel
theorem dX3_reachedThroughOneMoreDoor_105 : decode cX3_reachedThroughOneMoreDoor 105 = .ok (.goto (-91), 3) := by decide +kernel
theorem dX3_reachedThroughOneMoreDoor_108 : decode cX3_reachedThroughOneMoreDoor 108 = .ok (.iload_n 2, 1) := by decide +kernel
theorem dX3_reachedThroughOneMoreDoor_109 : decode cX3_reachedThroughOneMoreDoor 109 = .ok (.ireturn, 1) := by decide +kernel
set_option maxRecDepth 20000 in
theorem ggX3_take_X4_insert : GoodIn wsX3_take wsX4_insert := goodIn_r _ [7, 8, 9, 10, 11, 12, 13, 14, 15, 16, 17, 18, 19, 20, 35, 36, 37, 38, 39, 40, 41] (by decide +kernel) (by decide +kernel)
set_option maxRecDepth 20000 in
theorem gX3_take_X4_insert : GoodIn wsX3_take (wsV RX3 143 RX4 yX4_insert wsX4_insert) := goodIn_app (goodIn_of _ (by decide +kernel)) ggX3_take_X4_insert
set_option maxRecDepth 20000 in
theorem ggX3_take_X1_allEnergy : GoodIn wsX3_take wsX1_allEnergy := goodIn_r _ [24, 16, 19, 20, 37, 38, 39, 40, 41] (by decide +kernel) (by decide +kernel)
set_option maxRecDepth 20000 in
theorem gX3_take_X1_allEnergy : GoodIn wsX3_take (wsV RX3 147 RX1 yX1_allEnergy wsX1_allEnergy) := goodIn_app (goodIn_of _ (by decide +kernel)) ggX3_take_X1_allEnergy
theorem dX3_take_0 : decode cX3_take 0 = .ok (.aload_n 0, 1) := by decide +kernel
theorem dX3_take_1 : decode cX3_take 1 = .ok (.getfield 26, 3) := by decide +kernel
theorem dX3_take_4 : decode cX3_take 4 = .ok (.aload_n 1, 1) := by decide +kernel
theorem dX3_take_5 : decode cX3_take 5 = .ok (.invokevirtual 143, 3) := by decide +kernel
theorem dX3_take_8 : decode cX3_take 8 = .ok (.aload_n 0, 1) := by decide +kernel
theorem dX3_take_9 : decode cX3_take 9 = .ok (.dup, 1) := by decide +kernel
theorem dX3_take_10 : decode cX3_take 10 = .ok (.getfield 66, 3) := by decide +kernel
theorem dX3_take_13 : decode cX3_take 13 = .ok (.aload_n 1, 1) := by decide +kernel
theorem dX3_take_14 : decode cX3_take 14 = .ok (.invokevirtual 147, 3) := by decide +kernel
theorem dX3_take_17 : decode cX3_take 17 = .ok (.iadd, 1) := by decide +kernel
theorem dX3_take_18 : decode cX3_take 18 = .ok (.putfield 66, 3) := by decide +kernel
theorem dX3_take_21 : decode cX3_take 21 = .ok (.return_, 1) := by decide +kernel
set_option maxRecDepth 20000 in
theorem ggX3_goOn_X5_keepEnergy : GoodIn wsX3_goOn wsX5_keepEnergy := goodIn_r _ [9, 10, 11, 12, 13, 14, 15, 164, 165, 166, 167, 168, 169, 170] (by decide +kernel) (by decide +kernel)
set_option maxRecDepth 20000 in
theorem gX3_goOn_X5_keepEnergy : GoodIn wsX3_goOn (wsV RX3 152 RX5 yX5_keepEnergy wsX5_keepEnergy) := goodIn_app (goodIn_of _ (by decide +kernel)) ggX3_goOn_X5_keepEnergy
set_option maxRecDepth 20000 in
theorem ggX3_goOn_X3_aimPlannedDoors : GoodIn wsX3_goOn wsX3_aimPlannedDoors := goodIn_r _ [20, 4, 21, 3, 22, 23, 24, 25, 26, 27, 28, 29, 30, 31, 32, 33, 34, 35, 36, 37, 38, 39, 40, 19, 41, 42, 43, 44, 45, 46, 47, 48, 49, 50, 154, 155, 156, 157, 158, 159, 160, 161, 162, 163, 171, 172, 173, 174, 175, 176, 177, 178, 179, 180, 181, 182, 183, 184, 185, 186, 187] (by decide +kernel) (by decide +kernel)
set_option maxRecDepth 20000 in
theorem gX3_goOn_X3_aimPlannedDoors : GoodIn wsX3_goOn (wsV RX3 156 RX3 yX3_aimPlannedDoors wsX3_aimPlannedDoors) := goodIn_app (goodIn_of _ (by decide +kernel)) ggX3_goOn_X3_aimPlannedDoors
set_option maxRecDepth 20000 in
theorem ggX3_goOn_X3_moveDoors : GoodIn wsX3_goOn wsX3_moveDoors := goodIn_r _ [54, 42, 43, 55, 4, 56, 3, 57, 58, 59, 60, 47, 61, 62, 50, 63, 64, 65, 66, 67, 68, 69, 70, 71, 72, 73, 27, 74, 29, 30, 75, 76, 77, 78, 34, 79, 36, 37, 80, 154, 155, 156, 157, 158, 159, 160, 161, 162, 163, 178, 179, 180, 181, 182, 183, 184, 185, 186, 187, 171, 172, 173, 174, 175, 176, 177] (by decide +kernel) (by decide +kernel)
set_option maxRecDepth 20000 in
theorem gX3_goOn_X3_moveDoors : GoodIn wsX3_goOn (wsV RX3 159 RX3 yX3_moveDoors wsX3_moveDoors) := goodIn_app (goodIn_of _ (by decide +kernel)) ggX3_goOn_X3_moveDoors
set_option maxRecDepth 20000 in
theorem ggX3_goOn_X3_giveSounds : GoodIn wsX3_goOn wsX3_giveSounds := goodIn_r _ [84, 4, 21, 3, 22, 23, 24, 25, 26, 27, 28, 29, 30, 85, 77, 78, 34, 79, 36, 37, 80, 86, 87, 88, 19, 89, 1, 2, 90, 91, 92, 8, 93, 11, 94, 154, 155, 156, 157, 158, 159, 160, 161, 162, 163, 171, 172, 173, 174, 175, 176, 177, 164, 165, 166, 167, 168, 169, 170] (by decide +kernel) (by decide +kernel)
set_option maxRecDepth 20000 in
theorem gX3_goOn_X3_giveSounds : GoodIn wsX3_goOn (wsV RX3 162 RX3 yX3_giveSounds wsX3_giveSounds) := goodIn_app (goodIn_of _ (by decide +kernel)) ggX3_goOn_X3_giveSounds
set_option maxRecDepth 20000 in
theorem ggX3_goOn_X4_dropEnded : GoodIn wsX3_goOn wsX4_dropEnded := goodIn_r _ [98, 29, 99, 25, 26, 27, 28, 30, 100, 101, 102, 34, 103, 36, 37, 80, 104, 105, 106, 107, 171, 172, 173, 174, 175, 176, 177] (by decide +kernel) (by decide +kernel)
set_option maxRecDepth 20000 in
theorem gX3_goOn_X4_dropEnded : GoodIn wsX3_goOn (wsV RX3 165 RX4 yX4_dropEnded wsX4_dropEnded) := goodIn_app (goodIn_of _ (by decide +kernel)) ggX3_goOn_X4_dropEnded
set_option maxRecDepth 20000 in
theorem ggX3_goOn_X5_absorbShare : GoodIn wsX3_goOn wsX5_absorbShare := goodIn_r _ [111, 11, 112, 113, 114, 115, 164, 165, 166, 167, 168, 169, 170] (by decide +kernel) (by decide +kernel)
set_option maxRecDepth 20000 in
theorem gX3_goOn_X5_absorbShare : GoodIn wsX3_goOn (wsV RX3 168 RX5 yX5_absorbShare wsX5_absorbShare) := goodIn_app (goodIn_of _ (by decide +kernel)) ggX3_goOn_X5_absorbShare
set_option maxRecDepth 20000 in
theorem ggX3_goOn_X3_sendThroughDoors : GoodIn wsX3_goOn wsX3_sendThroughDoors := goodIn_r _ [119, 42, 43, 120, 56, 121, 3, 122, 123, 124, 19, 125, 86, 87, 88, 89, 1, 2, 126, 127, 128, 8, 129, 130, 11, 131, 132, 133, 134, 135, 136, 47, 137, 138, 139, 140, 141, 142, 143, 144, 13, 14, 15, 154, 155, 156, 157, 158, 159, 160, 161, 162, 163, 178, 179, 180, 181, 182, 183, 184, 185, 186, 187, 164, 165, 166, 167, 168, 169, 170] (by decide +kernel) (by decide +kernel)
set_option maxRecDepth 20000 in
theorem gX3_goOn_X3_sendThroughDoors : GoodIn wsX3_goOn (wsV RX3 171 RX3 yX3_sendThroughDoors wsX3_sendThroughDoors) := goodIn_app (goodIn_of _ (by decide +kernel)) ggX3_goOn_X3_sendThroughDoors
set_option maxRecDepth 20000 in
theorem ggX3_goOn_X3_letArrive : GoodIn wsX3_goOn wsX3_letArrive := goodIn_r _ [148, 42, 43, 3, 56, 149, 121, 150, 151, 152, 47, 153, 139, 141, 142, 143, 144, 13, 14, 15, 86, 87, 88, 19, 89, 1, 2, 154, 155, 156, 157, 158, 159, 160, 161, 162, 163, 178, 179, 180, 181, 182, 183, 184, 185, 186, 187, 164, 165, 166, 167, 168, 169, 170] (by decide +kernel) (by decide +kernel)
set_option maxRecDepth 20000 in
theorem gX3_goOn_X3_letArrive : GoodIn wsX3_goOn (wsV RX3 174 RX3 yX3_letArrive wsX3_letArrive) := goodIn_app (goodIn_of _ (by decide +kernel)) ggX3_goOn_X3_letArrive
theorem dX3_goOn_0 : decode cX3_goOn 0 = .ok (.iconst 0, 1) := by decide +kernel
theorem dX3_goOn_1 : decode cX3_goOn 1 = .ok (.istore_n 1, 1) := by decide +kernel
theorem dX3_goOn_2 : decode cX3_goOn 2 = .ok (.iload_n 1, 1) := by decide +kernel
theorem dX3_goOn_3 : decode cX3_goOn 3 = .ok (.aload_n 0, 1) := by decide +kernel
theorem dX3_goOn_4 : decode cX3_goOn 4 = .ok (.getfield 53, 3) := by decide +kernel
theorem dX3_goOn_7 : decode cX3_goOn 7 = .ok (.if_icmp .ge 31, 3) := by decide +kernel
theorem dX3_goOn_10 : decode cX3_goOn 10 = .ok (.iload_n 1, 1) := by decide +kernel
theorem dX3_goOn_11 : decode cX3_goOn 11 = .ok (.aload_n 0, 1) := by decide +kernel
theorem dX3_goOn_12 : decode cX3_goOn 12 = .ok (.getfield 11, 3) := by decide +kernel
theorem dX3_goOn_15 : decode cX3_goOn 15 = .ok (.arraylength, 1) := by decide +kernel
theorem dX3_goOn_16 : decode cX3_goOn 16 = .ok (.if_icmp .ge 22, 3) := by decide +kernel
theorem dX3_goOn_19 : decode cX3_goOn 19 = .ok (.aload_n 0, 1) := by decide +kernel
theorem dX3_goOn_20 : decode cX3_goOn 20 = .ok (.getfield 11, 3) := by decide +kernel
theorem dX3_goOn_23 : decode cX3_goOn 23 = .ok (.iload_n 1, 1) := by decide +kernel
theorem dX3_goOn_24 : decode cX3_goOn 24 = .ok (.aaload, 1) := by decide +kernel
theorem dX3_goOn_25 : decode cX3_goOn 25 = .ok (.aload_n 0, 1) := by decide +kernel
theorem dX3_goOn_26 : decode cX3_goOn 26 = .ok (.getfield 60, 3) := by decide +kernel
theorem dX3_goOn_29 : decode cX3_goOn 29 = .ok (.invokevirtual 152, 3) := by decide +kernel
theorem dX3_goOn_32 : decode cX3_goOn 32 = .ok (.iinc 1 1, 3) := by decide +kernel
theorem dX3_goOn_35 : decode cX3_goOn 35 = .ok (.goto (-33), 3) := by decide +kernel
theorem dX3_goOn_38 : decode cX3_goOn 38 = .ok (.aload_n 0, 1) := by decide +kernel
theorem dX3_goOn_39 : decode cX3_goOn 39 = .ok (.invokevirtual 156, 3) := by decide +kernel
theorem dX3_goOn_42 : decode cX3_goOn 42 = .ok (.aload_n 0, 1) := by decide +kernel
theorem dX3_goOn_43 : decode cX3_goOn 43 = .ok (.invokevirtual 159, 3) := by decide +kernel
theorem dX3_goOn_46 : decode cX3_goOn 46 = .ok (.aload_n 0, 1) := by decide +kernel
theorem dX3_goOn_47 : decode cX3_goOn 47 = .ok (.invokevirtual 162, 3) := by decide +kernel
theorem dX3_goOn_50 : decode cX3_goOn 50 = .ok (.aload_n 0, 1) := by decide +kernel
theorem dX3_goOn_51 : decode cX3_goOn 51 = .ok (.getfield 26, 3) := by decide +kernel
theorem dX3_goOn_54 : decode cX3_goOn 54 = .ok (.aload_n 0, 1) := by decide +kernel
theorem dX3_goOn_55 : decode cX3_goOn 55 = .ok (.getfield 60, 3) := by decide +kernel
theorem dX3_goOn_58 : decode cX3_goOn 58 = .ok (.invokevirtual 165, 3) := by decide +kernel
theorem dX3_goOn_61 : decode cX3_goOn 61 = .ok (.iconst 0, 1) := by decide +kernel
theorem dX3_goOn_62 : decode cX3_goOn 62 = .ok (.istore_n 1, 1) := by decide +kernel
theorem dX3_goOn_63 : decode cX3_goOn 63 = .ok (.iload_n 1, 1) := by decide +kernel
theorem dX3_goOn_64 : decode cX3_goOn 64 = .ok (.aload_n 0, 1) := by decide +kernel
theorem dX3_goOn_65 : decode cX3_goOn 65 = .ok (.getfield 53, 3) := by decide +kernel
theorem dX3_goOn_68 : decode cX3_goOn 68 = .ok (.if_icmp .ge 27, 3) := by decide +kernel
theorem dX3_goOn_71 : decode cX3_goOn 71 = .ok (.iload_n 1, 1) := by decide +kernel
theorem dX3_goOn_72 : decode cX3_goOn 72 = .ok (.aload_n 0, 1) := by decide +kernel
theorem dX3_goOn_73 : decode cX3_goOn 73 = .ok (.getfield 11, 3) := by decide +kernel
theorem dX3_goOn_76 : decode cX3_goOn 76 = .ok (.arraylength, 1) := by decide +kernel
theorem dX3_goOn_77 : decode cX3_goOn 77 = .ok (.if_icmp .ge 18, 3) := by decide +kernel
theorem dX3_goOn_80 : decode cX3_goOn 80 = .ok (.aload_n 0, 1) := by decide +kernel
theorem dX3_goOn_81 : decode cX3_goOn 81 = .ok (.getfield 11, 3) := by decide +kernel
theorem dX3_goOn_84 : decode cX3_goOn 84 = .ok (.iload_n 1, 1) := by decide +kernel
theorem dX3_goOn_85 : decode cX3_goOn 85 = .ok (.aaload, 1) := by decide +kernel
theorem dX3_goOn_86 : decode cX3_goOn 86 = .ok (.invokevirtual 168, 3) := by decide +kernel
theorem dX3_goOn_89 : decode cX3_goOn 89 = .ok (.iinc 1 1, 3) := by decide +kernel
theorem dX3_goOn_92 : decode cX3_goOn 92 = .ok (.goto (-29), 3) := by decide +kernel
theorem dX3_goOn_95 : decode cX3_goOn 95 = .ok (.aload_n 0, 1) := by decide +kernel
theorem dX3_goOn_96 : decode cX3_goOn 96 = .ok (.invokevirtual 171, 3) := by decide +kernel
theorem dX3_goOn_99 : decode cX3_goOn 99 = .ok (.aload_n 0, 1) := by decide +kernel
theorem dX3_goOn_100 : decode cX3_goOn 100 = .ok (.invokevirtual 174, 3) := by decide +kernel
theorem dX3_goOn_103 : decode cX3_goOn 103 = .ok (.aload_n 0, 1) := by decide +kernel
theorem dX3_goOn_104 : decode cX3_goOn 104 = .ok (.dup, 1) := by decide +kernel
theorem dX3_goOn_105 : decode cX3_goOn 105 = .ok (.getfield 60, 3) := by decide +kernel
theorem dX3_goOn_108 : decode cX3_goOn 108 = .ok (.iconst 1, 1) := by decide +kernel
theorem dX3_goOn_109 : decode cX3_goOn 109 = .ok (.iadd, 1) := by decide +kernel
theorem dX3_goOn_110 : decode cX3_goOn 110 = .ok (.putfield 60, 3) := by decide +kernel
theorem dX3_goOn_113 : decode cX3_goOn 113 = .ok (.return_, 1) := by decide +kernel
set_option maxRecDepth 20000 in
theorem ggX3_aimPlannedDoors_X4_entryAt : GoodIn wsX3_aimPlannedDoors wsX4_entryAt := goodIn_r _ [10, 11, 12, 44, 45] (by decide +kernel) (by decide +kernel)
set_option maxRecDepth 20000 in
theorem gX3_aimPlannedDoors_X4_entryAt : GoodIn wsX3_aimPlannedDoors (wsV RX3 180 RX4 yX4_entryAt wsX4_entryAt) := goodIn_app (goodIn_of _ (by decide +kernel)) ggX3_aimPlannedDoors_X4_entryAt
set_option maxRecDepth 20000 in
theorem ggX3_aimPlannedDoors_X1_isTargetFor : GoodIn wsX3_aimPlannedDoors wsX1_isTargetFor := goodIn_r _ [17, 18, 19, 46, 47, 48, 49, 50] (by decide +kernel) (by decide +kernel)
set_option maxRecDepth 20000 in
theorem gX3_aimPlannedDoors_X1_isTargetFor : GoodIn wsX3_aimPlannedDoors (wsV RX3 184 RX1 yX1_isTargetFor wsX1_isTargetFor) := goodIn_app (goodIn_of _ (by decide +kernel)) ggX3_aimPlannedDoors_X1_isTargetFor
set_option maxRecDepth 20000 in
theorem ggX3_aimPlannedDoors_X3_doorAt : GoodIn wsX3_aimPlannedDoors wsX3_doorAt := goodIn_r _ [24, 25, 26, 34, 35, 36, 37, 38, 39, 40, 41, 42, 43] (by decide +kernel) (by decide +kernel)
set_option maxRecDepth 20000 in
theorem gX3_aimPlannedDoors_X3_doorAt : GoodIn wsX3_aimPlannedDoors (wsV RX3 115 RX3 yX3_doorAt wsX3_doorAt) := goodIn_app (goodIn_of _ (by decide +kernel)) ggX3_aimPlannedDoors_X3_doorAt
set_option maxRecDepth 20000 in
theorem ggX3_aimPlannedDoors_X0_aimAt : GoodIn wsX3_aimPlannedDoors wsX0_aimAt := goodIn_r _ [31, 32, 33, 51, 52, 53, 54, 55, 56, 57, 58, 59, 60] (by decide +kernel) (by decide +kernel)
set_option maxRecDepth 20000 in
theorem gX3_aimPlannedDoors_X0_aimAt : GoodIn wsX3_aimPlannedDoors (wsV RX3 193 RX0 yX0_aimAt wsX0_aimAt) := goodIn_app (goodIn_of _ (by decide +kernel)) ggX3_aimPlannedDoors_X0_aimAt
theorem dX3_aimPlannedDoors_0 : decode cX3_aimPlannedDoors 0 = .ok (.iconst 0, 1) := by decide +kernel
theorem dX3_aimPlannedDoors_1 : decode cX3_aimPlannedDoors 1 = .ok (.istore_n 1, 1) := by decide +kernel
theorem dX3_aimPlannedDoors_2 : decode cX3_aimPlannedDoors 2 = .ok (.iload_n 1, 1) := by decide +kernel
theorem dX3_aimPlannedDoors_3 : decode cX3_aimPlannedDoors 3 = .ok (.aload_n 0, 1) := by decide +kernel
theorem dX3_aimPlannedDoors_4 : decode cX3_aimPlannedDoors 4 = .ok (.getfield 26, 3) := by decide +kernel
theorem dX3_aimPlannedDoors_7 : decode cX3_aimPlannedDoors 7 = .ok (.getfield 177, 3) := by decide +kernel
theorem dX3_aimPlannedDoors_10 : decode cX3_aimPlannedDoors 10 = .ok (.if_icmp .ge 54, 3) := by decide +kernel
theorem dX3_aimPlannedDoors_13 : decode cX3_aimPlannedDoors 13 = .ok (.aload_n 0, 1) := by decide +kernel
theorem dX3_aimPlannedDoors_14 : decode cX3_aimPlannedDoors 14 = .ok (.getfield 26, 3) := by decide +kernel
theorem dX3_aimPlannedDoors_17 : decode cX3_aimPlannedDoors 17 = .ok (.iload_n 1, 1) := by decide +kernel
theorem dX3_aimPlannedDoors_18 : decode cX3_aimPlannedDoors 18 = .ok (.invokevirtual 180, 3) := by decide +kernel
theorem dX3_aimPlannedDoors_21 : decode cX3_aimPlannedDoors 21 = .ok (.astore_n 2, 1) := by decide +kernel
theorem dX3_aimPlannedDoors_22 : decode cX3_aimPlannedDoors 22 = .ok (.aload_n 2, 1) := by decide +kernel
theorem dX3_aimPlannedDoors_23 : decode cX3_aimPlannedDoors 23 = .ok (.ifnull 35, 3) := by decide +kernel
theorem dX3_aimPlannedDoors_26 : decode cX3_aimPlannedDoors 26 = .ok (.aload_n 2, 1) := by decide +kernel
theorem dX3_aimPlannedDoors_27 : decode cX3_aimPlannedDoors 27 = .ok (.aload_n 0, 1) := by decide +kernel
theorem dX3_aimPlannedDoors_28 : decode cX3_aimPlannedDoors 28 = .ok (.getfield 60, 3) := by decide +kernel
theorem dX3_aimPlannedDoors_31 : decode cX3_aimPlannedDoors 31 = .ok (.invokevirtual 184, 3) := by decide +kernel
theorem dX3_aimPlannedDoors_34 : decode cX3_aimPlannedDoors 34 = .ok (.ifCond .eq 24, 3) := by decide +kernel
theorem dX3_aimPlannedDoors_37 : decode cX3_aimPlannedDoors 37 = .ok (.aload_n 0, 1) := by decide +kernel
theorem dX3_aimPlannedDoors_38 : decode cX3_aimPlannedDoors 38 = .ok (.aload_n 2, 1) := by decide +kernel
theorem dX3_aimPlannedDoors_39 : decode cX3_aimPlannedDoors 39 = .ok (.getfield 187, 3) := by decide +kernel
theorem dX3_aimPlannedDoors_42 : decode cX3_aimPlannedDoors 42 = .ok (.invokevirtual 115, 3) := by decide +kernel
theorem dX3_aimPlannedDoors_45 : decode cX3_aimPlannedDoors 45 = .ok (.astore_n 3, 1) := by decide +kernel
theorem dX3_aimPlannedDoors_46 : decode cX3_aimPlannedDoors 46 = .ok (.aload_n 3, 1) := by decide +kernel
theorem dX3_aimPlannedDoors_47 : decode cX3_aimPlannedDoors 47 = .ok (.ifnull 11, 3) := by decide +kernel
theorem dX3_aimPlannedDoors_50 : decode cX3_aimPlannedDoors 50 = .ok (.aload_n 3, 1) := by decide +kernel
theorem dX3_aimPlannedDoors_51 : decode cX3_aimPlannedDoors 51 = .ok (.aload_n 2, 1) := by decide +kernel
theorem dX3_aimPlannedDoors_52 : decode cX3_aimPlannedDoors 52 = .ok (.getfield 190, 3) := by decide +kernel
theorem dX3_aimPlannedDoors_55 : decode cX3_aimPlannedDoors 55 = .ok (.invokevirtual 193, 3) := by decide +kernel
theorem dX3_aimPlannedDoors_58 : decode cX3_aimPlannedDoors 58 = .ok (.iinc 1 1, 3) := by decide +kernel
theorem dX3_aimPlannedDoors_61 : decode cX3_aimPlannedDoors 61 = .ok (.goto (-59), 3) := by decide +kernel
theorem dX3_aimPlannedDoors_64 : decode cX3_aimPlannedDoors 64 = .ok (.return_, 1) := by decide +kernel
set_option maxRecDepth 20000 in
theorem ggX3_moveDoors_X0_move : GoodIn wsX3_moveDoors wsX0_move := goodIn_r _ [12, 13, 14, 15, 16, 17, 18, 19, 20, 21, 22, 49, 50, 51, 52, 53, 54, 55, 56, 57, 58] (by decide +kernel) (by decide +kernel)
set_option maxRecDepth 20000 in
theorem gX3_moveDoors_X0_move : GoodIn wsX3_moveDoors (wsV RX3 196 RX0 yX0_move wsX0_move) := goodIn_app (goodIn_of _ (by decide +kernel)) ggX3_moveDoors_X0_move
set_option maxRecDepth 20000 in
theorem ggX3_moveDoors_X4_soundsHeard : GoodIn wsX3_moveDoors wsX4_soundsHeard := goodIn_r _ [27, 28, 29, 30, 31, 32, 33, 34, 35, 36, 37, 38, 59, 60, 61, 62, 63, 64, 65] (by decide +kernel) (by decide +kernel)
set_option maxRecDepth 20000 in
theorem gX3_moveDoors_X4_soundsHeard : GoodIn wsX3_moveDoors (wsV RX3 199 RX4 yX4_soundsHeard wsX4_soundsHeard) := goodIn_app (goodIn_of _ (by decide +kernel)) ggX3_moveDoors_X4_soundsHeard
theorem dX3_moveDoors_0 : decode cX3_moveDoors 0 = .ok (.iconst 0, 1) := by decide +kernel
theorem dX3_moveDoors_1 : decode cX3_moveDoors 1 = .ok (.istore_n 1, 1) := by decide +kernel
theorem dX3_moveDoors_2 : decode cX3_moveDoors 2 = .ok (.iload_n 1, 1) := by decide +kernel
theorem dX3_moveDoors_3 : decode cX3_moveDoors 3 = .ok (.aload_n 0, 1) := by decide +kernel
theorem dX3_moveDoors_4 : decode cX3_moveDoors 4 = .ok (.getfield 57, 3) := by decide +kernel
theorem dX3_moveDoors_7 : decode cX3_moveDoors 7 = .ok (.if_icmp .ge 90, 3) := by decide +kernel
theorem dX3_moveDoors_10 : decode cX3_moveDoors 10 = .ok (.iload_n 1, 1) := by decide +kernel
theorem dX3_moveDoors_11 : decode cX3_moveDoors 11 = .ok (.aload_n 0, 1) := by decide +kernel
theorem dX3_moveDoors_12 : decode cX3_moveDoors 12 = .ok (.getfield 19, 3) := by decide +kernel
theorem dX3_moveDoors_15 : decode cX3_moveDoors 15 = .ok (.arraylength, 1) := by decide +kernel
theorem dX3_moveDoors_16 : decode cX3_moveDoors 16 = .ok (.if_icmp .ge 81, 3) := by decide +kernel
theorem dX3_moveDoors_19 : decode cX3_moveDoors 19 = .ok (.aload_n 0, 1) := by decide +kernel
theorem dX3_moveDoors_20 : decode cX3_moveDoors 20 = .ok (.getfield 19, 3) := by decide +kernel
theorem dX3_moveDoors_23 : decode cX3_moveDoors 23 = .ok (.iload_n 1, 1) := by decide +kernel
theorem dX3_moveDoors_24 : decode cX3_moveDoors 24 = .ok (.aaload, 1) := by decide +kernel
theorem dX3_moveDoors_25 : decode cX3_moveDoors 25 = .ok (.astore_n 2, 1) := by decide +kernel
theorem dX3_moveDoors_26 : decode cX3_moveDoors 26 = .ok (.aload_n 2, 1) := by decide +kernel
theorem dX3_moveDoors_27 : decode cX3_moveDoors 27 = .ok (.getfield 112, 3) := by decide +kernel
theorem dX3_moveDoors_30 : decode cX3_moveDoors 30 = .ok (.istore_n 3, 1) := by decide +kernel
theorem dX3_moveDoors_31 : decode cX3_moveDoors 31 = .ok (.aload_n 2, 1) := by decide +kernel
theorem dX3_moveDoors_32 : decode cX3_moveDoors 32 = .ok (.invokevirtual 196, 3) := by decide +kernel
theorem dX3_moveDoors_35 : decode cX3_moveDoors 35 = .ok (.aload_n 2, 1) := by decide +kernel
theorem dX3_moveDoors_36 : decode cX3_moveDoors 36 = .ok (.getfield 112, 3) := by decide +kernel
theorem dX3_moveDoors_39 : decode cX3_moveDoors 39 = .ok (.iload_n 3, 1) := by decide +kernel
theorem dX3_moveDoors_40 : decode cX3_moveDoors 40 = .ok (.if_icmp .le 51, 3) := by decide +kernel
theorem dX3_moveDoors_43 : decode cX3_moveDoors 43 = .ok (.aload_n 0, 1) := by decide +kernel
theorem dX3_moveDoors_44 : decode cX3_moveDoors 44 = .ok (.getfield 26, 3) := by decide +kernel
theorem dX3_moveDoors_47 : decode cX3_moveDoors 47 = .ok (.aload_n 2, 1) := by decide +kernel
theorem dX3_moveDoors_48 : decode cX3_moveDoors 48 = .ok (.getfield 100, 3) := by decide +kernel
theorem dX3_moveDoors_51 : decode cX3_moveDoors 51 = .ok (.iconst 0, 1) := by decide +kernel
theorem dX3_moveDoors_52 : decode cX3_moveDoors 52 = .ok (.iaload, 1) := by decide +kernel
theorem dX3_moveDoors_53 : decode cX3_moveDoors 53 = .ok (.aload_n 0, 1) := by decide +kernel
theorem dX3_moveDoors_54 : decode cX3_moveDoors 54 = .ok (.getfield 60, 3) := by decide +kernel
theorem dX3_moveDoors_57 : decode cX3_moveDoors 57 = .ok (.invokevirtual 199, 3) := by decide +kernel
theorem dX3_moveDoors_60 : decode cX3_moveDoors 60 = .ok (.aload_n 0, 1) := by decide +kernel
theorem dX3_moveDoors_61 : decode cX3_moveDoors 61 = .ok (.getfield 26, 3) := by decide +kernel
theorem dX3_moveDoors_64 : decode cX3_moveDoors 64 = .ok (.aload_n 2, 1) := by decide +kernel
theorem dX3_moveDoors_65 : decode cX3_moveDoors 65 = .ok (.getfield 100, 3) := by decide +kernel
theorem dX3_moveDoors_68 : decode cX3_moveDoors 68 = .ok (.iconst 1, 1) := by decide +kernel
theorem dX3_moveDoors_69 : decode cX3_moveDoors 69 = .ok (.iaload, 1) := by decide +kernel
theorem dX3_moveDoors_70 : decode cX3_moveDoors 70 = .ok (.aload_n 0, 1) := by decide +kernel
theorem dX3_moveDoors_71 : decode cX3_moveDoors 71 = .ok (.getfield 60, 3) := by decide +kernel
theorem dX3_moveDoors_74 : decode cX3_moveDoors 74 = .ok (.invokevirtual 199, 3) := by decide +kernel
theorem dX3_moveDoors_77 : decode cX3_moveDoors 77 = .ok (.iadd, 1) := by decide +kernel
theorem dX3_moveDoors_78 : decode cX3_moveDoors 78 = .ok (.ifCond .le 13, 3) := by decide +kernel
theorem dX3_moveDoors_81 : decode cX3_moveDoors 81 = .ok (.aload_n 0, 1) := by decide +kernel
theorem dX3_moveDoors_82 : decode cX3_moveDoors 82 = .ok (.dup, 1) := by decide +kernel
theorem dX3_moveDoors_83 : decode cX3_moveDoors 83 = .ok (.getfield 69, 3) := by decide +kernel
theorem dX3_moveDoors_86 : decode cX3_moveDoors 86 = .ok (.iconst 1, 1) := by decide +kernel
theorem dX3_moveDoors_87 : decode cX3_moveDoors 87 = .ok (.iadd, 1) := by decide +kernel
theorem dX3_moveDoors_88 : decode cX3_moveDoors 88 = .ok (.putfield 69, 3) := by decide +kernel
theorem dX3_moveDoors_91 : decode cX3_moveDoors 91 = .ok (.iinc 1 1, 3) := by decide +kernel
theorem dX3_moveDoors_94 : decode cX3_moveDoors 94 = .ok (.goto (-92), 3) := by decide +kernel
theorem dX3_moveDoors_97 : decode cX3_moveDoors 97 = .ok (.return_, 1) := by decide +kernel
set_option maxRecDepth 20000 in
theorem ggX3_giveSounds_X4_entryAt : GoodIn wsX3_giveSounds wsX4_entryAt := goodIn_r _ [10, 11, 12, 45, 46] (by decide +kernel) (by decide +kernel)
set_option maxRecDepth 20000 in
theorem gX3_giveSounds_X4_entryAt : GoodIn wsX3_giveSounds (wsV RX3 180 RX4 yX4_entryAt wsX4_entryAt) := goodIn_app (goodIn_of _ (by decide +kernel)) ggX3_giveSounds_X4_entryAt
set_option maxRecDepth 20000 in
theorem ggX3_giveSounds_X1_isHeardIn : GoodIn wsX3_giveSounds wsX1_isHeardIn := goodIn_r _ [17, 18, 19, 20, 47, 48, 49, 50, 51] (by decide +kernel) (by decide +kernel)
set_option maxRecDepth 20000 in
theorem gX3_giveSounds_X1_isHeardIn : GoodIn wsX3_giveSounds (wsV RX3 203 RX1 yX1_isHeardIn wsX1_isHeardIn) := goodIn_app (goodIn_of _ (by decide +kernel)) ggX3_giveSounds_X1_isHeardIn
set_option maxRecDepth 20000 in
theorem ggX3_giveSounds_X3_roomAt : GoodIn wsX3_giveSounds wsX3_roomAt := goodIn_r _ [25, 26, 27, 35, 36, 37, 38, 39, 40, 41, 42, 43, 44] (by decide +kernel) (by decide +kernel)
set_option maxRecDepth 20000 in
theorem gX3_giveSounds_X3_roomAt : GoodIn wsX3_giveSounds (wsV RX3 79 RX3 yX3_roomAt wsX3_roomAt) := goodIn_app (goodIn_of _ (by decide +kernel)) ggX3_giveSounds_X3_roomAt
set_option maxRecDepth 20000 in
theorem ggX3_giveSounds_X5_hear : GoodIn wsX3_giveSounds wsX5_hear := goodIn_r _ [32, 33, 34, 52, 53, 54, 55, 56, 57, 58] (by decide +kernel) (by decide +kernel)
set_option maxRecDepth 20000 in
theorem gX3_giveSounds_X5_hear : GoodIn wsX3_giveSounds (wsV RX3 206 RX5 yX5_hear wsX5_hear) := goodIn_app (goodIn_of _ (by decide +kernel)) ggX3_giveSounds_X5_hear
theorem dX3_giveSounds_0 : decode cX3_giveSounds 0 = .ok (.iconst 0, 1) := by decide +kernel
theorem dX3_giveSounds_1 : decode cX3_giveSounds 1 = .ok (.istore_n 1, 1) := by decide +kernel
theorem dX3_giveSounds_2 : decode cX3_giveSounds 2 = .ok (.iload_n 1, 1) := by decide +kernel
theorem dX3_giveSounds_3 : decode cX3_giveSounds 3 = .ok (.aload_n 0, 1) := by decide +kernel
theorem dX3_giveSounds_4 : decode cX3_giveSounds 4 = .ok (.getfield 26, 3) := by decide +kernel
theorem dX3_giveSounds_7 : decode cX3_giveSounds 7 = .ok (.getfield 177, 3) := by decide +kernel
theorem dX3_giveSounds_10 : decode cX3_giveSounds 10 = .ok (.if_icmp .ge 54, 3) := by decide +kernel
theorem dX3_giveSounds_13 : decode cX3_giveSounds 13 = .ok (.aload_n 0, 1) := by decide +kernel
theorem dX3_giveSounds_14 : decode cX3_giveSounds 14 = .ok (.getfield 26, 3) := by decide +kernel
theorem dX3_giveSounds_17 : decode cX3_giveSounds 17 = .ok (.iload_n 1, 1) := by decide +kernel
theorem dX3_giveSounds_18 : decode cX3_giveSounds 18 = .ok (.invokevirtual 180, 3) := by decide +kernel
theorem dX3_giveSounds_21 : decode cX3_giveSounds 21 = .ok (.astore_n 2, 1) := by decide +kernel
theorem dX3_giveSounds_22 : decode cX3_giveSounds 22 = .ok (.aload_n 2, 1) := by decide +kernel
theorem dX3_giveSounds_23 : decode cX3_giveSounds 23 = .ok (.ifnull 35, 3) := by decide +kernel
theorem dX3_giveSounds_26 : decode cX3_giveSounds 26 = .ok (.aload_n 2, 1) := by decide +kernel
theorem dX3_giveSounds_27 : decode cX3_giveSounds 27 = .ok (.aload_n 0, 1) := by decide +kernel
theorem dX3_giveSounds_28 : decode cX3_giveSounds 28 = .ok (.getfield 60, 3) := by decide +kernel
theorem dX3_giveSounds_31 : decode cX3_giveSounds 31 = .ok (.invokevirtual 203, 3) := by decide +kernel
theorem dX3_giveSounds_34 : decode cX3_giveSounds 34 = .ok (.ifCond .eq 24, 3) := by decide +kernel
theorem dX3_giveSounds_37 : decode cX3_giveSounds 37 = .ok (.aload_n 0, 1) := by decide +kernel
theorem dX3_giveSounds_38 : decode cX3_giveSounds 38 = .ok (.aload_n 2, 1) := by decide +kernel
theorem dX3_giveSounds_39 : decode cX3_giveSounds 39 = .ok (.getfield 187, 3) := by decide +kernel
theorem dX3_giveSounds_42 : decode cX3_giveSounds 42 = .ok (.invokevirtual 79, 3) := by decide +kernel
theorem dX3_giveSounds_45 : decode cX3_giveSounds 45 = .ok (.astore_n 3, 1) := by decide +kernel
theorem dX3_giveSounds_46 : decode cX3_giveSounds 46 = .ok (.aload_n 3, 1) := by decide +kernel
theorem dX3_giveSounds_47 : decode cX3_giveSounds 47 = .ok (.ifnull 11, 3) := by decide +kernel
theorem dX3_giveSounds_50 : decode cX3_giveSounds 50 = .ok (.aload_n 3, 1) := by decide +kernel
theorem dX3_giveSounds_51 : decode cX3_giveSounds 51 = .ok (.aload_n 2, 1) := by decide +kernel
theorem dX3_giveSounds_52 : decode cX3_giveSounds 52 = .ok (.getfield 190, 3) := by decide +kernel
theorem dX3_giveSounds_55 : decode cX3_giveSounds 55 = .ok (.invokevirtual 206, 3) := by decide +kernel
theorem dX3_giveSounds_58 : decode cX3_giveSounds 58 = .ok (.iinc 1 1, 3) := by decide +kernel
theorem dX3_giveSounds_61 : decode cX3_giveSounds 61 = .ok (.goto (-59), 3) := by decide +kernel
theorem dX3_giveSounds_64 : decode cX3_giveSounds 64 = .ok (.return_, 1) := by decide +kernel
set_option maxRecDepth 20000 in
theorem ggX3_wouldGo_X3_roomAt : GoodIn wsX3_wouldGo wsX3_roomAt := goodIn_r _ [6, 7, 8, 29, 30, 31, 32, 33, 34, 35, 36, 37, 38] (by decide +kernel) (by decide +kernel)
set_option maxRecDepth 20000 in
theorem gX3_wouldGo_X3_roomAt : GoodIn wsX3_wouldGo (wsV RX3 79 RX3 yX3_roomAt wsX3_roomAt) := goodIn_app (goodIn_of _ (by decide +kernel)) ggX3_wouldGo_X3_roomAt
set_option maxRecDepth 20000 in
theorem ggX3_wouldGo_X5_shareThrough : GoodIn wsX3_wouldGo wsX5_shareThrough := goodIn_r _ [13, 14, 15, 16, 17, 18, 39, 40, 41, 42, 43, 44, 45, 19, 20, 21, 22, 23, 24, 25, 26, 27, 28] (by decide +kernel) (by decide +kernel)
set_option maxRecDepth 20000 in
theorem gX3_wouldGo_X5_shareThrough : GoodIn wsX3_wouldGo (wsV RX3 209 RX5 yX5_shareThrough wsX5_shareThrough) := goodIn_app (goodIn_of _ (by decide +kernel)) ggX3_wouldGo_X5_shareThrough
theorem dX3_wouldGo_0 : decode cX3_wouldGo 0 = .ok (.aload_n 0, 1) := by decide +kernel
theorem dX3_wouldGo_1 : decode cX3_wouldGo 1 = .ok (.iload_n 2, 1) := by decide +kernel
theorem dX3_wouldGo_2 : decode cX3_wouldGo 2 = .ok (.ifCond .ne 12, 3) := by decide +kernel
theorem dX3_wouldGo_5 : decode cX3_wouldGo 5 = .ok (.aload_n 1, 1) := by decide +kernel
theorem dX3_wouldGo_6 : decode cX3_wouldGo 6 = .ok (.getfield 100, 3) := by decide +kernel
theorem dX3_wouldGo_9 : decode cX3_wouldGo 9 = .ok (.iconst 0, 1) := by decide +kernel
theorem dX3_wouldGo_10 : decode cX3_wouldGo 10 = .ok (.iaload, 1) := by decide +kernel
theorem dX3_wouldGo_11 : decode cX3_wouldGo 11 = .ok (.goto 9, 3) := by decide +kernel
theorem dX3_wouldGo_14 : decode cX3_wouldGo 14 = .ok (.aload_n 1, 1) := by decide +kernel
theorem dX3_wouldGo_15 : decode cX3_wouldGo 15 = .ok (.getfield 100, 3) := by decide +kernel
theorem dX3_wouldGo_18 : decode cX3_wouldGo 18 = .ok (.iconst 1, 1) := by decide +kernel
theorem dX3_wouldGo_19 : decode cX3_wouldGo 19 = .ok (.iaload, 1) := by decide +kernel
theorem dX3_wouldGo_20 : decode cX3_wouldGo 20 = .ok (.invokevirtual 79, 3) := by decide +kernel
theorem dX3_wouldGo_23 : decode cX3_wouldGo 23 = .ok (.astore_n 3, 1) := by decide +kernel
theorem dX3_wouldGo_24 : decode cX3_wouldGo 24 = .ok (.aload_n 3, 1) := by decide +kernel
theorem dX3_wouldGo_25 : decode cX3_wouldGo 25 = .ok (.ifnonnull 7, 3) := by decide +kernel
theorem dX3_wouldGo_28 : decode cX3_wouldGo 28 = .ok (.iconst 0, 1) := by decide +kernel
theorem dX3_wouldGo_29 : decode cX3_wouldGo 29 = .ok (.goto 8, 3) := by decide +kernel
theorem dX3_wouldGo_32 : decode cX3_wouldGo 32 = .ok (.aload_n 3, 1) := by decide +kernel
theorem dX3_wouldGo_33 : decode cX3_wouldGo 33 = .ok (.aload_n 1, 1) := by decide +kernel
theorem dX3_wouldGo_34 : decode cX3_wouldGo 34 = .ok (.invokevirtual 209, 3) := by decide +kernel
theorem dX3_wouldGo_37 : decode cX3_wouldGo 37 = .ok (.ireturn, 1) := by decide +kernel
set_option maxRecDepth 20000 in
theorem ggX3_sendThroughDoors_X3_wouldGo : GoodIn wsX3_sendThroughDoors wsX3_wouldGo := goodIn_r _ [11, 4, 12, 13, 14, 10, 15, 16, 17, 18, 19, 20, 21, 22, 23, 24, 25, 26, 27, 53, 54, 55, 56, 57, 58, 59, 60, 61, 62, 43, 44, 45, 46, 47, 48, 49, 50, 51, 52, 63, 64, 65, 66, 67, 68, 69] (by decide +kernel) (by decide +kernel)
set_option maxRecDepth 20000 in
theorem gX3_sendThroughDoors_X3_wouldGo : GoodIn wsX3_sendThroughDoors (wsV RX3 216 RX3 yX3_wouldGo wsX3_wouldGo) := goodIn_app (goodIn_of _ (by decide +kernel)) ggX3_sendThroughDoors_X3_wouldGo
set_option maxRecDepth 20000 in
theorem ggX3_sendThroughDoors_X3_roomAt : GoodIn wsX3_sendThroughDoors wsX3_roomAt := goodIn_r _ [15, 16, 17, 43, 44, 45, 46, 47, 48, 49, 50, 51, 52] (by decide +kernel) (by decide +kernel)
set_option maxRecDepth 20000 in
theorem gX3_sendThroughDoors_X3_roomAt : GoodIn wsX3_sendThroughDoors (wsV RX3 79 RX3 yX3_roomAt wsX3_roomAt) := goodIn_app (goodIn_of _ (by decide +kernel)) ggX3_sendThroughDoors_X3_roomAt
set_option maxRecDepth 20000 in
theorem ggX3_sendThroughDoors_X0_send : GoodIn wsX3_sendThroughDoors wsX0_send := goodIn_r _ [32, 33, 34, 35, 36, 37, 31, 38, 39, 40, 41, 42, 53, 54, 55, 56, 57, 58, 59, 60, 61, 62] (by decide +kernel) (by decide +kernel)
set_option maxRecDepth 20000 in
theorem gX3_sendThroughDoors_X0_send : GoodIn wsX3_sendThroughDoors (wsV RX3 220 RX0 yX0_send wsX0_send) := goodIn_app (goodIn_of _ (by decide +kernel)) ggX3_sendThroughDoors_X0_send
theorem dX3_sendThroughDoors_0 : decode cX3_sendThroughDoors 0 = .ok (.iconst 0, 1) := by decide +kernel
theorem dX3_sendThroughDoors_1 : decode cX3_sendThroughDoors 1 = .ok (.istore_n 1, 1) := by decide +kernel
theorem dX3_sendThroughDoors_2 : decode cX3_sendThroughDoors 2 = .ok (.iload_n 1, 1) := by decide +kernel
theorem dX3_sendThroughDoors_3 : decode cX3_sendThroughDoors 3 = .ok (.aload_n 0, 1) := by decide +kernel
theorem dX3_sendThroughDoors_4 : decode cX3_sendThroughDoors 4 = .ok (.getfield 57, 3) := by decide +kernel
theorem dX3_sendThroughDoors_7 : decode cX3_sendThroughDoors 7 = .ok (.if_icmp .ge 53, 3) := by decide +kernel
theorem dX3_sendThroughDoors_10 : decode cX3_sendThroughDoors 10 = .ok (.iload_n 1, 1) := by decide +kernel
theorem dX3_sendThroughDoors_11 : decode cX3_sendThroughDoors 11 = .ok (.aload_n 0, 1) := by decide +kernel
theorem dX3_sendThroughDoors_12 : decode cX3_sendThroughDoors 12 = .ok (.getfield 19, 3) := by decide +kernel
theorem dX3_sendThroughDoors_15 : decode cX3_sendThroughDoors 15 = .ok (.arraylength, 1) := by decide +kernel
theorem dX3_sendThroughDoors_16 : decode cX3_sendThroughDoors 16 = .ok (.if_icmp .ge 44, 3) := by decide +kernel
theorem dX3_sendThroughDoors_19 : decode cX3_sendThroughDoors 19 = .ok (.iconst 0, 1) := by decide +kernel
theorem dX3_sendThroughDoors_20 : decode cX3_sendThroughDoors 20 = .ok (.istore_n 2, 1) := by decide +kernel
theorem dX3_sendThroughDoors_21 : decode cX3_sendThroughDoors 21 = .ok (.iload_n 2, 1) := by decide +kernel
theorem dX3_sendThroughDoors_22 : decode cX3_sendThroughDoors 22 = .ok (.iconst 2, 1) := by decide +kernel
theorem dX3_sendThroughDoors_23 : decode cX3_sendThroughDoors 23 = .ok (.if_icmp .ge 31, 3) := by decide +kernel
theorem dX3_sendThroughDoors_26 : decode cX3_sendThroughDoors 26 = .ok (.aload_n 0, 1) := by decide +kernel
theorem dX3_sendThroughDoors_27 : decode cX3_sendThroughDoors 27 = .ok (.getfield 19, 3) := by decide +kernel
theorem dX3_sendThroughDoors_30 : decode cX3_sendThroughDoors 30 = .ok (.iload_n 1, 1) := by decide +kernel
theorem dX3_sendThroughDoors_31 : decode cX3_sendThroughDoors 31 = .ok (.aaload, 1) := by decide +kernel
theorem dX3_sendThroughDoors_32 : decode cX3_sendThroughDoors 32 = .ok (.getfield 213, 3) := by decide +kernel
theorem dX3_sendThroughDoors_35 : decode cX3_sendThroughDoors 35 = .ok (.iload_n 2, 1) := by decide +kernel
theorem dX3_sendThroughDoors_36 : decode cX3_sendThroughDoors 36 = .ok (.aload_n 0, 1) := by decide +kernel
theorem dX3_sendThroughDoors_37 : decode cX3_sendThroughDoors 37 = .ok (.aload_n 0, 1) := by decide +kernel
theorem dX3_sendThroughDoors_38 : decode cX3_sendThroughDoors 38 = .ok (.getfield 19, 3) := by decide +kernel
theorem dX3_sendThroughDoors_41 : decode cX3_sendThroughDoors 41 = .ok (.iload_n 1, 1) := by decide +kernel
theorem dX3_sendThroughDoors_42 : decode cX3_sendThroughDoors 42 = .ok (.aaload, 1) := by decide +kernel
theorem dX3_sendThroughDoors_43 : decode cX3_sendThroughDoors 43 = .ok (.iload_n 2, 1) := by decide +kernel
theorem dX3_sendThroughDoors_44 : decode cX3_sendThroughDoors 44 = .ok (.invokevirtual 216, 3) := by decide +kernel
theorem dX3_sendThroughDoors_47 : decode cX3_sendThroughDoors 47 = .ok (.iastore, 1) := by decide +kernel
theorem dX3_sendThroughDoors_48 : decode cX3_sendThroughDoors 48 = .ok (.iinc 2 1, 3) := by decide +kernel
theorem dX3_sendThroughDoors_51 : decode cX3_sendThroughDoors 51 = .ok (.goto (-30), 3) := by decide +kernel
theorem dX3_sendThroughDoors_54 : decode cX3_sendThroughDoors 54 = .ok (.iinc 1 1, 3) := by decide +kernel
theorem dX3_sendThroughDoors_57 : decode cX3_sendThroughDoors 57 = .ok (.goto (-55), 3) := by decide +kernel
theorem dX3_sendThroughDoors_60 : decode cX3_sendThroughDoors 60 = .ok (.iconst 0, 1) := by decide +kernel
theorem dX3_sendThroughDoors_61 : decode cX3_sendThroughDoors 61 = .ok (.istore_n 1, 1) := by decide +kernel
theorem dX3_sendThroughDoors_62 : decode cX3_sendThroughDoors 62 = .ok (.iload_n 1, 1) := by decide +kernel
theorem dX3_sendThroughDoors_63 : decode cX3_sendThroughDoors 63 = .ok (.aload_n 0, 1) := by decide +kernel
theorem dX3_sendThroughDoors_64 : decode cX3_sendThroughDoors 64 = .ok (.getfield 57, 3) := by decide +kernel
theorem dX3_sendThroughDoors_67 : decode cX3_sendThroughDoors 67 = .ok (.if_icmp .ge 86, 3) := by decide +kernel
theorem dX3_sendThroughDoors_70 : decode cX3_sendThroughDoors 70 = .ok (.iload_n 1, 1) := by decide +kernel
theorem dX3_sendThroughDoors_71 : decode cX3_sendThroughDoors 71 = .ok (.aload_n 0, 1) := by decide +kernel
theorem dX3_sendThroughDoors_72 : decode cX3_sendThroughDoors 72 = .ok (.getfield 19, 3) := by decide +kernel
theorem dX3_sendThroughDoors_75 : decode cX3_sendThroughDoors 75 = .ok (.arraylength, 1) := by decide +kernel
theorem dX3_sendThroughDoors_76 : decode cX3_sendThroughDoors 76 = .ok (.if_icmp .ge 77, 3) := by decide +kernel
theorem dX3_sendThroughDoors_79 : decode cX3_sendThroughDoors 79 = .ok (.aload_n 0, 1) := by decide +kernel
theorem dX3_sendThroughDoors_80 : decode cX3_sendThroughDoors 80 = .ok (.getfield 19, 3) := by decide +kernel
theorem dX3_sendThroughDoors_83 : decode cX3_sendThroughDoors 83 = .ok (.iload_n 1, 1) := by decide +kernel
theorem dX3_sendThroughDoors_84 : decode cX3_sendThroughDoors 84 = .ok (.aaload, 1) := by decide +kernel
theorem dX3_sendThroughDoors_85 : decode cX3_sendThroughDoors 85 = .ok (.astore_n 2, 1) := by decide +kernel
theorem dX3_sendThroughDoors_86 : decode cX3_sendThroughDoors 86 = .ok (.iconst 0, 1) := by decide +kernel
theorem dX3_sendThroughDoors_87 : decode cX3_sendThroughDoors 87 = .ok (.istore_n 3, 1) := by decide +kernel
theorem dX3_sendThroughDoors_88 : decode cX3_sendThroughDoors 88 = .ok (.iload_n 3, 1) := by decide +kernel
theorem dX3_sendThroughDoors_89 : decode cX3_sendThroughDoors 89 = .ok (.iconst 2, 1) := by decide +kernel
theorem dX3_sendThroughDoors_90 : decode cX3_sendThroughDoors 90 = .ok (.if_icmp .ge 57, 3) := by decide +kernel
theorem dX3_sendThroughDoors_93 : decode cX3_sendThroughDoors 93 = .ok (.aload_n 0, 1) := by decide +kernel
theorem dX3_sendThroughDoors_94 : decode cX3_sendThroughDoors 94 = .ok (.aload_n 2, 1) := by decide +kernel
theorem dX3_sendThroughDoors_95 : decode cX3_sendThroughDoors 95 = .ok (.getfield 100, 3) := by decide +kernel
theorem dX3_sendThroughDoors_98 : decode cX3_sendThroughDoors 98 = .ok (.iload_n 3, 1) := by decide +kernel
theorem dX3_sendThroughDoors_99 : decode cX3_sendThroughDoors 99 = .ok (.iaload, 1) := by decide +kernel
theorem dX3_sendThroughDoors_100 : decode cX3_sendThroughDoors 100 = .ok (.invokevirtual 79, 3) := by decide +kernel
theorem dX3_sendThroughDoors_103 : decode cX3_sendThroughDoors 103 = .ok (.astore 4, 2) := by decide +kernel
theorem dX3_sendThroughDoors_105 : decode cX3_sendThroughDoors 105 = .ok (.aload 4, 2) := by decide +kernel
theorem dX3_sendThroughDoors_107 : decode cX3_sendThroughDoors 107 = .ok (.ifnull 34, 3) := by decide +kernel
theorem dX3_sendThroughDoors_110 : decode cX3_sendThroughDoors 110 = .ok (.aload 4, 2) := by decide +kernel
theorem dX3_sendThroughDoors_112 : decode cX3_sendThroughDoors 112 = .ok (.dup, 1) := by decide +kernel
theorem dX3_sendThroughDoors_113 : decode cX3_sendThroughDoors 113 = .ok (.getfield 123, 3) := by decide +kernel
theorem dX3_sendThroughDoors_116 : decode cX3_sendThroughDoors 116 = .ok (.aload_n 2, 1) := by decide +kernel
theorem dX3_sendThroughDoors_117 : decode cX3_sendThroughDoors 117 = .ok (.getfield 213, 3) := by decide +kernel
theorem dX3_sendThroughDoors_120 : decode cX3_sendThroughDoors 120 = .ok (.iload_n 3, 1) := by decide +kernel
theorem dX3_sendThroughDoors_121 : decode cX3_sendThroughDoors 121 = .ok (.iaload, 1) := by decide +kernel
theorem dX3_sendThroughDoors_122 : decode cX3_sendThroughDoors 122 = .ok (.isub, 1) := by decide +kernel
theorem dX3_sendThroughDoors_123 : decode cX3_sendThroughDoors 123 = .ok (.putfield 123, 3) := by decide +kernel
theorem dX3_sendThroughDoors_126 : decode cX3_sendThroughDoors 126 = .ok (.aload_n 2, 1) := by decide +kernel
theorem dX3_sendThroughDoors_127 : decode cX3_sendThroughDoors 127 = .ok (.aload_n 2, 1) := by decide +kernel
theorem dX3_sendThroughDoors_128 : decode cX3_sendThroughDoors 128 = .ok (.getfield 213, 3) := by decide +kernel
theorem dX3_sendThroughDoors_131 : decode cX3_sendThroughDoors 131 = .ok (.iload_n 3, 1) := by decide +kernel
theorem dX3_sendThroughDoors_132 : decode cX3_sendThroughDoors 132 = .ok (.iaload, 1) := by decide +kernel
theorem dX3_sendThroughDoors_133 : decode cX3_sendThroughDoors 133 = .ok (.iload_n 3, 1) := by decide +kernel
theorem dX3_sendThroughDoors_134 : decode cX3_sendThroughDoors 134 = .ok (.aload_n 0, 1) := by decide +kernel
theorem dX3_sendThroughDoors_135 : decode cX3_sendThroughDoors 135 = .ok (.getfield 60, 3) := by decide +kernel
theorem dX3_sendThroughDoors_138 : decode cX3_sendThroughDoors 138 = .ok (.invokevirtual 220, 3) := by decide +kernel
theorem dX3_sendThroughDoors_141 : decode cX3_sendThroughDoors 141 = .ok (.iinc 3 1, 3) := by decide +kernel
theorem dX3_sendThroughDoors_144 : decode cX3_sendThroughDoors 144 = .ok (.goto (-56), 3) := by decide +kernel
theorem dX3_sendThroughDoors_147 : decode cX3_sendThroughDoors 147 = .ok (.iinc 1 1, 3) := by decide +kernel
theorem dX3_sendThroughDoors_150 : decode cX3_sendThroughDoors 150 = .ok (.goto (-88), 3) := by decide +kernel
theorem dX3_sendThroughDoors_153 : decode cX3_sendThroughDoors 153 = .ok (.return_, 1) := by decide +kernel
set_option maxRecDepth 20000 in
theorem ggX3_letArrive_X0_takeArrived : GoodIn wsX3_letArrive wsX0_takeArrived := goodIn_r _ [11, 12, 13, 14, 10, 15, 16, 17, 18, 19, 37, 38, 39, 40, 41, 42, 43, 44, 45, 46] (by decide +kernel) (by decide +kernel)
set_option maxRecDepth 20000 in
theorem gX3_letArrive_X0_takeArrived : GoodIn wsX3_letArrive (wsV RX3 223 RX0 yX0_takeArrived wsX0_takeArrived) := goodIn_app (goodIn_of _ (by decide +kernel)) ggX3_letArrive_X0_takeArrived
set_option maxRecDepth 20000 in
theorem ggX3_letArrive_X3_roomAt : GoodIn wsX3_letArrive wsX3_roomAt := goodIn_r _ [24, 25, 26, 27, 28, 29, 30, 31, 32, 33, 34, 35, 36] (by decide +kernel) (by decide +kernel)
set_option maxRecDepth 20000 in
theorem gX3_letArrive_X3_roomAt : GoodIn wsX3_letArrive (wsV RX3 79 RX3 yX3_roomAt wsX3_roomAt) := goodIn_app (goodIn_of _ (by decide +kernel)) ggX3_letArrive_X3_roomAt
theorem dX3_letArrive_0 : decode cX3_letArrive 0 = .ok (.iconst 0, 1) := by decide +kernel
theorem dX3_letArrive_1 : decode cX3_letArrive 1 = .ok (.istore_n 1, 1) := by decide +kernel
theorem dX3_letArrive_2 : decode cX3_letArrive 2 = .ok (.iload_n 1, 1) := by decide +kernel
theorem dX3_letArrive_3 : decode cX3_letArrive 3 = .ok (.aload_n 0, 1) := by decide +kernel
theorem dX3_letArrive_4 : decode cX3_letArrive 4 = .ok (.getfield 57, 3) := by decide +kernel
theorem dX3_letArrive_7 : decode cX3_letArrive 7 = .ok (.if_icmp .ge 92, 3) := by decide +kernel
theorem dX3_letArrive_10 : decode cX3_letArrive 10 = .ok (.iload_n 1, 1) := by decide +kernel
theorem dX3_letArrive_11 : decode cX3_letArrive 11 = .ok (.aload_n 0, 1) := by decide +kernel
theorem dX3_letArrive_12 : decode cX3_letArrive 12 = .ok (.getfield 19, 3) := by decide +kernel
theorem dX3_letArrive_15 : decode cX3_letArrive 15 = .ok (.arraylength, 1) := by decide +kernel
theorem dX3_letArrive_16 : decode cX3_letArrive 16 = .ok (.if_icmp .ge 83, 3) := by decide +kernel
theorem dX3_letArrive_19 : decode cX3_letArrive 19 = .ok (.aload_n 0, 1) := by decide +kernel
theorem dX3_letArrive_20 : decode cX3_letArrive 20 = .ok (.getfield 19, 3) := by decide +kernel
theorem dX3_letArrive_23 : decode cX3_letArrive 23 = .ok (.iload_n 1, 1) := by decide +kernel
theorem dX3_letArrive_24 : decode cX3_letArrive 24 = .ok (.aaload, 1) := by decide +kernel
theorem dX3_letArrive_25 : decode cX3_letArrive 25 = .ok (.astore_n 2, 1) := by decide +kernel
theorem dX3_letArrive_26 : decode cX3_letArrive 26 = .ok (.iconst 0, 1) := by decide +kernel
theorem dX3_letArrive_27 : decode cX3_letArrive 27 = .ok (.istore_n 3, 1) := by decide +kernel
theorem dX3_letArrive_28 : decode cX3_letArrive 28 = .ok (.iload_n 3, 1) := by decide +kernel
theorem dX3_letArrive_29 : decode cX3_letArrive 29 = .ok (.iconst 2, 1) := by decide +kernel
theorem dX3_letArrive_30 : decode cX3_letArrive 30 = .ok (.if_icmp .ge 63, 3) := by decide +kernel
theorem dX3_letArrive_33 : decode cX3_letArrive 33 = .ok (.aload_n 2, 1) := by decide +kernel
theorem dX3_letArrive_34 : decode cX3_letArrive 34 = .ok (.iload_n 3, 1) := by decide +kernel
theorem dX3_letArrive_35 : decode cX3_letArrive 35 = .ok (.aload_n 0, 1) := by decide +kernel
theorem dX3_letArrive_36 : decode cX3_letArrive 36 = .ok (.getfield 60, 3) := by decide +kernel
theorem dX3_letArrive_39 : decode cX3_letArrive 39 = .ok (.invokevirtual 223, 3) := by decide +kernel
theorem dX3_letArrive_42 : decode cX3_letArrive 42 = .ok (.istore 4, 2) := by decide +kernel
theorem dX3_letArrive_44 : decode cX3_letArrive 44 = .ok (.aload_n 0, 1) := by decide +kernel
theorem dX3_letArrive_45 : decode cX3_letArrive 45 = .ok (.aload_n 2, 1) := by decide +kernel
theorem dX3_letArrive_46 : decode cX3_letArrive 46 = .ok (.getfield 100, 3) := by decide +kernel
theorem dX3_letArrive_49 : decode cX3_letArrive 49 = .ok (.iload_n 3, 1) := by decide +kernel
theorem dX3_letArrive_50 : decode cX3_letArrive 50 = .ok (.iaload, 1) := by decide +kernel
theorem dX3_letArrive_51 : decode cX3_letArrive 51 = .ok (.invokevirtual 79, 3) := by decide +kernel
theorem dX3_letArrive_54 : decode cX3_letArrive 54 = .ok (.astore 5, 2) := by decide +kernel
theorem dX3_letArrive_56 : decode cX3_letArrive 56 = .ok (.aload 5, 2) := by decide +kernel
theorem dX3_letArrive_58 : decode cX3_letArrive 58 = .ok (.ifnonnull 17, 3) := by decide +kernel
theorem dX3_letArrive_61 : decode cX3_letArrive 61 = .ok (.aload_n 0, 1) := by decide +kernel
theorem dX3_letArrive_62 : decode cX3_letArrive 62 = .ok (.dup, 1) := by decide +kernel
theorem dX3_letArrive_63 : decode cX3_letArrive 63 = .ok (.getfield 63, 3) := by decide +kernel
theorem dX3_letArrive_66 : decode cX3_letArrive 66 = .ok (.iload 4, 2) := by decide +kernel
theorem dX3_letArrive_68 : decode cX3_letArrive 68 = .ok (.iadd, 1) := by decide +kernel
theorem dX3_letArrive_69 : decode cX3_letArrive 69 = .ok (.putfield 63, 3) := by decide +kernel
theorem dX3_letArrive_72 : decode cX3_letArrive 72 = .ok (.goto 15, 3) := by decide +kernel
theorem dX3_letArrive_75 : decode cX3_letArrive 75 = .ok (.aload 5, 2) := by decide +kernel
theorem dX3_letArrive_77 : decode cX3_letArrive 77 = .ok (.dup, 1) := by decide +kernel
theorem dX3_letArrive_78 : decode cX3_letArrive 78 = .ok (.getfield 123, 3) := by decide +kernel
theorem dX3_letArrive_81 : decode cX3_letArrive 81 = .ok (.iload 4, 2) := by decide +kernel
theorem dX3_letArrive_83 : decode cX3_letArrive 83 = .ok (.iadd, 1) := by decide +kernel
theorem dX3_letArrive_84 : decode cX3_letArrive 84 = .ok (.putfield 123, 3) := by decide +kernel
theorem dX3_letArrive_87 : decode cX3_letArrive 87 = .ok (.iinc 3 1, 3) := by decide +kernel
theorem dX3_letArrive_90 : decode cX3_letArrive 90 = .ok (.goto (-62), 3) := by decide +kernel
theorem dX3_letArrive_93 : decode cX3_letArrive 93 = .ok (.iinc 1 1, 3) := by decide +kernel
theorem dX3_letArrive_96 : decode cX3_letArrive 96 = .ok (.goto (-94), 3) := by decide +kernel
theorem dX3_letArrive_99 : decode cX3_letArrive 99 = .ok (.return_, 1) := by decide +kernel
set_option maxRecDepth 20000 in
theorem ggX4_init_X1_init : GoodIn wsX4_init wsX1_init := goodIn_r _ [9, 10, 2, 3] (by decide +kernel) (by decide +kernel)
set_option maxRecDepth 20000 in
theorem gX4_init_X1_init_n17 : GoodIn wsX4_init (wsX1_init) := ggX4_init_X1_init
theorem dX4_init_0 : decode cX4_init 0 = .ok (.aload_n 0, 1) := by decide +kernel
theorem dX4_init_1 : decode cX4_init 1 = .ok (.invokespecial 3, 3) := by decide +kernel
theorem dX4_init_4 : decode cX4_init 4 = .ok (.aload_n 0, 1) := by decide +kernel
theorem dX4_init_5 : decode cX4_init 5 = .ok (.bipush 16, 2) := by decide +kernel
theorem dX4_init_7 : decode cX4_init 7 = .ok (.anewarray 9, 3) := by decide +kernel
theorem dX4_init_10 : decode cX4_init 10 = .ok (.putfield 11, 3) := by decide +kernel
theorem dX4_init_13 : decode cX4_init 13 = .ok (.iconst 0, 1) := by decide +kernel
theorem dX4_init_14 : decode cX4_init 14 = .ok (.istore_n 1, 1) := by decide +kernel
theorem dX4_init_15 : decode cX4_init 15 = .ok (.iload_n 1, 1) := by decide +kernel
theorem dX4_init_16 : decode cX4_init 16 = .ok (.aload_n 0, 1) := by decide +kernel
theorem dX4_init_17 : decode cX4_init 17 = .ok (.getfield 11, 3) := by decide +kernel
theorem dX4_init_20 : decode cX4_init 20 = .ok (.arraylength, 1) := by decide +kernel
theorem dX4_init_21 : decode cX4_init 21 = .ok (.if_icmp .ge 22, 3) := by decide +kernel
theorem dX4_init_24 : decode cX4_init 24 = .ok (.aload_n 0, 1) := by decide +kernel
theorem dX4_init_25 : decode cX4_init 25 = .ok (.getfield 11, 3) := by decide +kernel
theorem dX4_init_28 : decode cX4_init 28 = .ok (.iload_n 1, 1) := by decide +kernel
theorem dX4_init_29 : decode cX4_init 29 = .ok (.new 9, 3) := by decide +kernel
theorem dX4_init_32 : decode cX4_init 32 = .ok (.dup, 1) := by decide +kernel
theorem dX4_init_33 : decode cX4_init 33 = .ok (.invokespecial 17, 3) := by decide +kernel
theorem dX4_init_36 : decode cX4_init 36 = .ok (.aastore, 1) := by decide +kernel
theorem dX4_init_37 : decode cX4_init 37 = .ok (.iinc 1 1, 3) := by decide +kernel
theorem dX4_init_40 : decode cX4_init 40 = .ok (.goto (-25), 3) := by decide +kernel
theorem dX4_init_43 : decode cX4_init 43 = .ok (.return_, 1) := by decide +kernel
set_option maxRecDepth 20000 in
theorem ggX4_copyFrom_X1_copyFrom : GoodIn wsX4_copyFrom wsX1_copyFrom := goodIn_r _ [7, 8, 9, 10, 11, 12, 15, 16, 17, 18, 19] (by decide +kernel) (by decide +kernel)
set_option maxRecDepth 20000 in
theorem gX4_copyFrom_X1_copyFrom : GoodIn wsX4_copyFrom (wsV RX4 22 RX1 yX1_copyFrom wsX1_copyFrom) := goodIn_app (goodIn_of _ (by decide +kernel)) ggX4_copyFrom_X1_copyFrom
theorem dX4_copyFrom_0 : decode cX4_copyFrom 0 = .ok (.aload_n 0, 1) := by decide +kernel
theorem dX4_copyFrom_1 : decode cX4_copyFrom 1 = .ok (.aload_n 1, 1) := by decide +kernel
theorem dX4_copyFrom_2 : decode cX4_copyFrom 2 = .ok (.getfield 18, 3) := by decide +kernel
theorem dX4_copyFrom_5 : decode cX4_copyFrom 5 = .ok (.putfield 18, 3) := by decide +kernel
theorem dX4_copyFrom_8 : decode cX4_copyFrom 8 = .ok (.iconst 0, 1) := by decide +kernel
theorem dX4_copyFrom_9 : decode cX4_copyFrom 9 = .ok (.istore_n 2, 1) := by decide +kernel
theorem dX4_copyFrom_10 : decode cX4_copyFrom 10 = .ok (.iload_n 2, 1) := by decide +kernel
theorem dX4_copyFrom_11 : decode cX4_copyFrom 11 = .ok (.aload_n 0, 1) := by decide +kernel
theorem dX4_copyFrom_12 : decode cX4_copyFrom 12 = .ok (.getfield 11, 3) := by decide +kernel
theorem dX4_copyFrom_15 : decode cX4_copyFrom 15 = .ok (.arraylength, 1) := by decide +kernel
theorem dX4_copyFrom_16 : decode cX4_copyFrom 16 = .ok (.if_icmp .ge 33, 3) := by decide +kernel
theorem dX4_copyFrom_19 : decode cX4_copyFrom 19 = .ok (.iload_n 2, 1) := by decide +kernel
theorem dX4_copyFrom_20 : decode cX4_copyFrom 20 = .ok (.aload_n 1, 1) := by decide +kernel
theorem dX4_copyFrom_21 : decode cX4_copyFrom 21 = .ok (.getfield 11, 3) := by decide +kernel
theorem dX4_copyFrom_24 : decode cX4_copyFrom 24 = .ok (.arraylength, 1) := by decide +kernel
theorem dX4_copyFrom_25 : decode cX4_copyFrom 25 = .ok (.if_icmp .ge 24, 3) := by decide +kernel
theorem dX4_copyFrom_28 : decode cX4_copyFrom 28 = .ok (.aload_n 0, 1) := by decide +kernel
theorem dX4_copyFrom_29 : decode cX4_copyFrom 29 = .ok (.getfield 11, 3) := by decide +kernel
theorem dX4_copyFrom_32 : decode cX4_copyFrom 32 = .ok (.iload_n 2, 1) := by decide +kernel
theorem dX4_copyFrom_33 : decode cX4_copyFrom 33 = .ok (.aaload, 1) := by decide +kernel
theorem dX4_copyFrom_34 : decode cX4_copyFrom 34 = .ok (.aload_n 1, 1) := by decide +kernel
theorem dX4_copyFrom_35 : decode cX4_copyFrom 35 = .ok (.getfield 11, 3) := by decide +kernel
theorem dX4_copyFrom_38 : decode cX4_copyFrom 38 = .ok (.iload_n 2, 1) := by decide +kernel
theorem dX4_copyFrom_39 : decode cX4_copyFrom 39 = .ok (.aaload, 1) := by decide +kernel
theorem dX4_copyFrom_40 : decode cX4_copyFrom 40 = .ok (.invokevirtual 22, 3) := by decide +kernel
theorem dX4_copyFrom_43 : decode cX4_copyFrom 43 = .ok (.iinc 2 1, 3) := by decide +kernel
theorem dX4_copyFrom_46 : decode cX4_copyFrom 46 = .ok (.goto (-36), 3) := by decide +kernel
theorem dX4_copyFrom_49 : decode cX4_copyFrom 49 = .ok (.return_, 1) := by decide +kernel
theorem dX4_isFull_0 : decode cX4_isFull 0 = .ok (.aload_n 0, 1) := by decide +kernel
theorem dX4_isFull_1 : decode cX4_isFull 1 = .ok (.getfield 18, 3) := by decide +kernel
theorem dX4_isFull_4 : decode cX4_isFull 4 = .ok (.aload_n 0, 1) := by decide +kernel
theorem dX4_isFull_5 : decode cX4_isFull 5 = .ok (.getfield 11, 3) := by decide +kernel
theorem dX4_isFull_8 : decode cX4_isFull 8 = .ok (.arraylength, 1) := by decide +kernel
theorem dX4_isFull_9 : decode cX4_isFull 9 = .ok (.if_icmp .lt 7, 3) := by decide +kernel
theorem dX4_isFull_12 : decode cX4_isFull 12 = .ok (.iconst 1, 1) := by decide +kernel
theorem dX4_isFull_13 : decode cX4_isFull 13 = .ok (.goto 4, 3) := by decide +kernel
theorem dX4_isFull_16 : decode cX4_isFull 16 = .ok (.iconst 0, 1) := by decide +kernel
theorem dX4_isFull_17 : decode cX4_isFull 17 = .ok (.ireturn, 1) := by decide +kernel
theorem dX4_entryAt_0 : decode cX4_entryAt 0 = .ok (.iload_n 1, 1) := by decide +kernel
theorem dX4_entryAt_1 : decode cX4_entryAt 1 = .ok (.ifCond .lt 29, 3) := by decide +kernel
theorem dX4_entryAt_4 : decode cX4_entryAt 4 = .ok (.iload_n 1, 1) := by decide +kernel
theorem dX4_entryAt_5 : decode cX4_entryAt 5 = .ok (.aload_n 0, 1) := by decide +kernel
theorem dX4_entryAt_6 : decode cX4_entryAt 6 = .ok (.getfield 18, 3) := by decide +kernel
theorem dX4_entryAt_9 : decode cX4_entryAt 9 = .ok (.if_icmp .ge 21, 3) := by decide +kernel
theorem dX4_entryAt_12 : decode cX4_entryAt 12 = .ok (.iload_n 1, 1) := by decide +kernel
theorem dX4_entryAt_13 : decode cX4_entryAt 13 = .ok (.aload_n 0, 1) := by decide +kernel
theorem dX4_entryAt_14 : decode cX4_entryAt 14 = .ok (.getfield 11, 3) := by decide +kernel
theorem dX4_entryAt_17 : decode cX4_entryAt 17 = .ok (.arraylength, 1) := by decide +kernel
theorem dX4_entryAt_18 : decode cX4_entryAt 18 = .ok (.if_icmp .ge 12, 3) := by decide +kernel
theorem dX4_entryAt_21 : decode cX4_entryAt 21 = .ok (.aload_n 0, 1) := by decide +kernel
theorem dX4_entryAt_22 : decode cX4_entryAt 22 = .ok (.getfield 11, 3) := by decide +kernel
theorem dX4_entryAt_25 : decode cX4_entryAt 25 = .ok (.iload_n 1, 1) := by decide +kernel
theorem dX4_entryAt_26 : decode cX4_entryAt 26 = .ok (.aaload, 1) := by decide +kernel
theorem dX4_entryAt_27 : decode cX4_entryAt 27 = .ok (.goto 4, 3) := by decide +kernel
theorem dX4_entryAt_30 : decode cX4_entryAt 30 = .ok (.aconst_null, 1) := by decide +kernel
theorem dX4_entryAt_31 : decode cX4_entryAt 31 = .ok (.areturn, 1) := by decide +kernel
set_option maxRecDepth 20000 in
theorem ggX4_insert_X1_copyFrom : GoodIn wsX4_insert wsX1_copyFrom := goodIn_r _ [8, 9, 10, 11, 12, 13, 16, 17, 18, 19, 20] (by decide +kernel) (by decide +kernel)
set_option maxRecDepth 20000 in
theorem gX4_insert_X1_copyFrom : GoodIn wsX4_insert (wsV RX4 22 RX1 yX1_copyFrom wsX1_copyFrom) := goodIn_app (goodIn_of _ (by decide +kernel)) ggX4_insert_X1_copyFrom
theorem dX4_insert_0 : decode cX4_insert 0 = .ok (.aload_n 0, 1) := by decide +kernel
theorem dX4_insert_1 : decode cX4_insert 1 = .ok (.getfield 18, 3) := by decide +kernel
theorem dX4_insert_4 : decode cX4_insert 4 = .ok (.ifCond .lt 15, 3) := by decide +kernel
theorem dX4_insert_7 : decode cX4_insert 7 = .ok (.aload_n 0, 1) := by decide +kernel
theorem dX4_insert_8 : decode cX4_insert 8 = .ok (.getfield 18, 3) := by decide +kernel
theorem dX4_insert_11 : decode cX4_insert 11 = .ok (.aload_n 0, 1) := by decide +kernel
theorem dX4_insert_12 : decode cX4_insert 12 = .ok (.getfield 11, 3) := by decide +kernel
theorem dX4_insert_15 : decode cX4_insert 15 = .ok (.arraylength, 1) := by decide +kernel
theorem dX4_insert_16 : decode cX4_insert 16 = .ok (.if_icmp .lt 4, 3) := by decide +kernel
theorem dX4_insert_19 : decode cX4_insert 19 = .ok (.return_, 1) := by decide +kernel
theorem dX4_insert_20 : decode cX4_insert 20 = .ok (.aload_n 0, 1) := by decide +kernel
theorem dX4_insert_21 : decode cX4_insert 21 = .ok (.getfield 11, 3) := by decide +kernel
theorem dX4_insert_24 : decode cX4_insert 24 = .ok (.aload_n 0, 1) := by decide +kernel
theorem dX4_insert_25 : decode cX4_insert 25 = .ok (.getfield 18, 3) := by decide +kernel
theorem dX4_insert_28 : decode cX4_insert 28 = .ok (.aaload, 1) := by decide +kernel
theorem dX4_insert_29 : decode cX4_insert 29 = .ok (.astore_n 2, 1) := by decide +kernel
theorem dX4_insert_30 : decode cX4_insert 30 = .ok (.aload_n 2, 1) := by decide +kernel
theorem dX4_insert_31 : decode cX4_insert 31 = .ok (.aload_n 1, 1) := by decide +kernel
theorem dX4_insert_32 : decode cX4_insert 32 = .ok (.invokevirtual 22, 3) := by decide +kernel
theorem dX4_insert_35 : decode cX4_insert 35 = .ok (.aload_n 0, 1) := by decide +kernel
theorem dX4_insert_36 : decode cX4_insert 36 = .ok (.getfield 18, 3) := by decide +kernel
theorem dX4_insert_39 : decode cX4_insert 39 = .ok (.istore_n 3, 1) := by decide +kernel
theorem dX4_insert_40 : decode cX4_insert 40 = .ok (.iload_n 3, 1) := by decide +kernel
theorem dX4_insert_41 : decode cX4_insert 41 = .ok (.ifCond .le 41, 3) := by decide +kernel
theorem dX4_insert_44 : decode cX4_insert 44 = .ok (.aload_n 0, 1) := by decide +kernel
theorem dX4_insert_45 : decode cX4_insert 45 = .ok (.getfield 11, 3) := by decide +kernel
theorem dX4_insert_48 : decode cX4_insert 48 = .ok (.iload_n 3, 1) := by decide +kernel
theorem dX4_insert_49 : decode cX4_insert 49 = .ok (.iconst 1, 1) := by decide +kernel
theorem dX4_insert_50 : decode cX4_insert 50 = .ok (.isub, 1) := by decide +kernel
theorem dX4_insert_51 : decode cX4_insert 51 = .ok (.aaload, 1) := by decide +kernel
theorem dX4_insert_52 : decode cX4_insert 52 = .ok (.getfield 26, 3) := by decide +kernel
theorem dX4_insert_55 : decode cX4_insert 55 = .ok (.aload_n 2, 1) := by decide +kernel
theorem dX4_insert_56 : decode cX4_insert 56 = .ok (.getfield 26, 3) := by decide +kernel
theorem dX4_insert_59 : decode cX4_insert 59 = .ok (.if_icmp .le 23, 3) := by decide +kernel
theorem dX4_insert_62 : decode cX4_insert 62 = .ok (.aload_n 0, 1) := by decide +kernel
theorem dX4_insert_63 : decode cX4_insert 63 = .ok (.getfield 11, 3) := by decide +kernel
theorem dX4_insert_66 : decode cX4_insert 66 = .ok (.iload_n 3, 1) := by decide +kernel
theorem dX4_insert_67 : decode cX4_insert 67 = .ok (.aload_n 0, 1) := by decide +kernel
theorem dX4_insert_68 : decode cX4_insert 68 = .ok (.getfield 11, 3) := by decide +kernel
theorem dX4_insert_71 : decode cX4_insert 71 = .ok (.iload_n 3, 1) := by decide +kernel
theorem dX4_insert_72 : decode cX4_insert 72 = .ok (.iconst 1, 1) := by decide +kernel
theorem dX4_insert_73 : decode cX4_insert 73 = .ok (.isub, 1) := by decide +kernel
theorem dX4_insert_74 : decode cX4_insert 74 = .ok (.aaload, 1) := by decide +kernel
theorem dX4_insert_75 : decode cX4_insert 75 = .ok (.aastore, 1) := by decide +kernel
theorem dX4_insert_76 : decode cX4_insert 76 = .ok (.iinc 3 (-1), 3) := by decide +kernel
theorem dX4_insert_79 : decode cX4_insert 79 = .ok (.goto (-39), 3) := by decide +kernel
theorem dX4_insert_82 : decode cX4_insert 82 = .ok (.aload_n 0, 1) := by decide +kernel
theorem dX4_insert_83 : decode cX4_insert 83 = .ok (.getfield 11, 3) := by decide +kernel
theorem dX4_insert_86 : decode cX4_insert 86 = .ok (.iload_n 3, 1) := by decide +kernel
theorem dX4_insert_87 : decode cX4_insert 87 = .ok (.aload_n 2, 1) := by decide +kernel
theorem dX4_insert_88 : decode cX4_insert 88 = .ok (.aastore, 1) := by decide +kernel
theorem dX4_insert_89 : decode cX4_insert 89 = .ok (.aload_n 0, 1) := by decide +kernel
theorem dX4_insert_90 : decode cX4_insert 90 = .ok (.dup, 1) := by decide +kernel
theorem dX4_insert_91 : decode cX4_insert 91 = .ok (.getfield 18, 3) := by decide +kernel
theorem dX4_insert_94 : decode cX4_insert 94 = .ok (.iconst 1, 1) := by decide +kernel
theorem dX4_insert_95 : decode cX4_insert 95 = .ok (.iadd, 1) := by decide +kernel
theorem dX4_insert_96 : decode cX4_insert 96 = .ok (.putfield 18, 3) := by decide +kernel
theorem dX4_insert_99 : decode cX4_insert 99 = .ok (.return_, 1) := by decide +kernel
set_option maxRecDepth 20000 in
theorem ggX4_drop_X4_entryAt : GoodIn wsX4_drop wsX4_entryAt := goodIn_r _ [7, 2, 1, 8, 9] (by decide +kernel) (by decide +kernel)
set_option maxRecDepth 20000 in
theorem gX4_drop_X4_entryAt : GoodIn wsX4_drop (wsV RX4 29 RX4 yX4_entryAt wsX4_entryAt) := goodIn_app (goodIn_of _ (by decide +kernel)) ggX4_drop_X4_entryAt
theorem dX4_drop_0 : decode cX4_drop 0 = .ok (.aload_n 0, 1) := by decide +kernel
theorem dX4_drop_1 : decode cX4_drop 1 = .ok (.iload_n 1, 1) := by decide +kernel
theorem dX4_drop_2 : decode cX4_drop 2 = .ok (.invokevirtual 29, 3) := by decide +kernel
theorem dX4_drop_5 : decode cX4_drop 5 = .ok (.ifnonnull 4, 3) := by decide +kernel
theorem dX4_drop_8 : decode cX4_drop 8 = .ok (.return_, 1) := by decide +kernel
theorem dX4_drop_9 : decode cX4_drop 9 = .ok (.aload_n 0, 1) := by decide +kernel
theorem dX4_drop_10 : decode cX4_drop 10 = .ok (.getfield 11, 3) := by decide +kernel
theorem dX4_drop_13 : decode cX4_drop 13 = .ok (.iload_n 1, 1) := by decide +kernel
theorem dX4_drop_14 : decode cX4_drop 14 = .ok (.aaload, 1) := by decide +kernel
theorem dX4_drop_15 : decode cX4_drop 15 = .ok (.astore_n 2, 1) := by decide +kernel
theorem dX4_drop_16 : decode cX4_drop 16 = .ok (.iload_n 1, 1) := by decide +kernel
theorem dX4_drop_17 : decode cX4_drop 17 = .ok (.istore_n 3, 1) := by decide +kernel
theorem dX4_drop_18 : decode cX4_drop 18 = .ok (.iload_n 3, 1) := by decide +kernel
theorem dX4_drop_19 : decode cX4_drop 19 = .ok (.iconst 1, 1) := by decide +kernel
theorem dX4_drop_20 : decode cX4_drop 20 = .ok (.iadd, 1) := by decide +kernel
theorem dX4_drop_21 : decode cX4_drop 21 = .ok (.aload_n 0, 1) := by decide +kernel
theorem dX4_drop_22 : decode cX4_drop 22 = .ok (.getfield 18, 3) := by decide +kernel
theorem dX4_drop_25 : decode cX4_drop 25 = .ok (.if_icmp .ge 34, 3) := by decide +kernel
theorem dX4_drop_28 : decode cX4_drop 28 = .ok (.iload_n 3, 1) := by decide +kernel
theorem dX4_drop_29 : decode cX4_drop 29 = .ok (.iconst 1, 1) := by decide +kernel
theorem dX4_drop_30 : decode cX4_drop 30 = .ok (.iadd, 1) := by decide +kernel
theorem dX4_drop_31 : decode cX4_drop 31 = .ok (.aload_n 0, 1) := by decide +kernel
theorem dX4_drop_32 : decode cX4_drop 32 = .ok (.getfield 11, 3) := by decide +kernel
theorem dX4_drop_35 : decode cX4_drop 35 = .ok (.arraylength, 1) := by decide +kernel
theorem dX4_drop_36 : decode cX4_drop 36 = .ok (.if_icmp .ge 23, 3) := by decide +kernel
theorem dX4_drop_39 : decode cX4_drop 39 = .ok (.aload_n 0, 1) := by decide +kernel
theorem dX4_drop_40 : decode cX4_drop 40 = .ok (.getfield 11, 3) := by decide +kernel
theorem dX4_drop_43 : decode cX4_drop 43 = .ok (.iload_n 3, 1) := by decide +kernel
theorem dX4_drop_44 : decode cX4_drop 44 = .ok (.aload_n 0, 1) := by decide +kernel
theorem dX4_drop_45 : decode cX4_drop 45 = .ok (.getfield 11, 3) := by decide +kernel
theorem dX4_drop_48 : decode cX4_drop 48 = .ok (.iload_n 3, 1) := by decide +kernel
theorem dX4_drop_49 : decode cX4_drop 49 = .ok (.iconst 1, 1) := by decide +kernel
theorem dX4_drop_50 : decode cX4_drop 50 = .ok (.iadd, 1) := by decide +kernel
theorem dX4_drop_51 : decode cX4_drop 51 = .ok (.aaload, 1) := by decide +kernel
theorem dX4_drop_52 : decode cX4_drop 52 = .ok (.aastore, 1) := by decide +kernel
theorem dX4_drop_53 : decode cX4_drop 53 = .ok (.iinc 3 1, 3) := by decide +kernel
theorem dX4_drop_56 : decode cX4_drop 56 = .ok (.goto (-38), 3) := by decide +kernel
theorem dX4_drop_59 : decode cX4_drop 59 = .ok (.aload_n 0, 1) := by decide +kernel
theorem dX4_drop_60 : decode cX4_drop 60 = .ok (.dup, 1) := by decide +kernel
theorem dX4_drop_61 : decode cX4_drop 61 = .ok (.getfield 18, 3) := by decide +kernel
theorem dX4_drop_64 : decode cX4_drop 64 = .ok (.iconst 1, 1) := by decide +kernel
theorem dX4_drop_65 : decode cX4_drop 65 = .ok (.isub, 1) := by decide +kernel
theorem dX4_drop_66 : decode cX4_drop 66 = .ok (.putfield 18, 3) := by decide +kernel
theorem dX4_drop_69 : decode cX4_drop 69 = .ok (.aload_n 0, 1) := by decide +kernel
theorem dX4_drop_70 : decode cX4_drop 70 = .ok (.getfield 18, 3) := by decide +kernel
theorem dX4_drop_73 : decode cX4_drop 73 = .ok (.ifCond .lt 25, 3) := by decide +kernel
theorem dX4_drop_76 : decode cX4_drop 76 = .ok (.aload_n 0, 1) := by decide +kernel
theorem dX4_drop_77 : decode cX4_drop 77 = .ok (.getfield 18, 3) := by decide +kernel
theorem dX4_drop_80 : decode cX4_drop 80 = .ok (.aload_n 0, 1) := by decide +kernel
theorem dX4_drop_81 : decode cX4_drop 81 = .ok (.getfield 11, 3) := by decide +kernel
theorem dX4_drop_84 : decode cX4_drop 84 = .ok (.arraylength, 1) := by decide +kernel
theorem dX4_drop_85 : decode cX4_drop 85 = .ok (.if_icmp .ge 13, 3) := by decide +kernel
theorem dX4_drop_88 : decode cX4_drop 88 = .ok (.aload_n 0, 1) := by decide +kernel
theorem dX4_drop_89 : decode cX4_drop 89 = .ok (.getfield 11, 3) := by decide +kernel
theorem dX4_drop_92 : decode cX4_drop 92 = .ok (.aload_n 0, 1) := by decide +kernel
theorem dX4_drop_93 : decode cX4_drop 93 = .ok (.getfield 18, 3) := by decide +kernel
theorem dX4_drop_96 : decode cX4_drop 96 = .ok (.aload_n 2, 1) := by decide +kernel
theorem dX4_drop_97 : decode cX4_drop 97 = .ok (.aastore, 1) := by decide +kernel
theorem dX4_drop_98 : decode cX4_drop 98 = .ok (.return_, 1) := by decide +kernel
set_option maxRecDepth 20000 in
theorem ggX4_dropEnded_X4_entryAt : GoodIn wsX4_dropEnded wsX4_entryAt := goodIn_r _ [6, 1, 7, 20, 21] (by decide +kernel) (by decide +kernel)
set_option maxRecDepth 20000 in
theorem gX4_dropEnded_X4_entryAt : GoodIn wsX4_dropEnded (wsV RX4 29 RX4 yX4_entryAt wsX4_entryAt) := goodIn_app (goodIn_of _ (by decide +kernel)) ggX4_dropEnded_X4_entryAt
set_option maxRecDepth 20000 in
theorem ggX4_dropEnded_X1_endsWith : GoodIn wsX4_dropEnded wsX1_endsWith := goodIn_r _ [12, 13, 14, 15, 22, 23, 24, 25, 26] (by decide +kernel) (by decide +kernel)
set_option maxRecDepth 20000 in
theorem gX4_dropEnded_X1_endsWith : GoodIn wsX4_dropEnded (wsV RX4 33 RX1 yX1_endsWith wsX1_endsWith) := goodIn_app (goodIn_of _ (by decide +kernel)) ggX4_dropEnded_X1_endsWith
set_option maxRecDepth 20000 in
theorem ggX4_dropEnded_X4_drop : GoodIn wsX4_dropEnded wsX4_drop := goodIn_r _ [19, 7, 1, 2, 3, 4, 5, 6, 20, 21] (by decide +kernel) (by decide +kernel)
set_option maxRecDepth 20000 in
theorem gX4_dropEnded_X4_drop : GoodIn wsX4_dropEnded (wsV RX4 37 RX4 yX4_drop wsX4_drop) := goodIn_app (goodIn_of _ (by decide +kernel)) ggX4_dropEnded_X4_drop
theorem dX4_dropEnded_0 : decode cX4_dropEnded 0 = .ok (.aload_n 0, 1) := by decide +kernel
theorem dX4_dropEnded_1 : decode cX4_dropEnded 1 = .ok (.getfield 18, 3) := by decide +kernel
theorem dX4_dropEnded_4 : decode cX4_dropEnded 4 = .ok (.iconst 1, 1) := by decide +kernel
theorem dX4_dropEnded_5 : decode cX4_dropEnded 5 = .ok (.isub, 1) := by decide +kernel
theorem dX4_dropEnded_6 : decode cX4_dropEnded 6 = .ok (.istore_n 2, 1) := by decide +kernel
theorem dX4_dropEnded_7 : decode cX4_dropEnded 7 = .ok (.iload_n 2, 1) := by decide +kernel
theorem dX4_dropEnded_8 : decode cX4_dropEnded 8 = .ok (.ifCond .lt 32, 3) := by decide +kernel
theorem dX4_dropEnded_11 : decode cX4_dropEnded 11 = .ok (.aload_n 0, 1) := by decide +kernel
theorem dX4_dropEnded_12 : decode cX4_dropEnded 12 = .ok (.iload_n 2, 1) := by decide +kernel
theorem dX4_dropEnded_13 : decode cX4_dropEnded 13 = .ok (.invokevirtual 29, 3) := by decide +kernel
theorem dX4_dropEnded_16 : decode cX4_dropEnded 16 = .ok (.astore_n 3, 1) := by decide +kernel
theorem dX4_dropEnded_17 : decode cX4_dropEnded 17 = .ok (.aload_n 3, 1) := by decide +kernel
theorem dX4_dropEnded_18 : decode cX4_dropEnded 18 = .ok (.ifnull 16, 3) := by decide +kernel
theorem dX4_dropEnded_21 : decode cX4_dropEnded 21 = .ok (.aload_n 3, 1) := by decide +kernel
theorem dX4_dropEnded_22 : decode cX4_dropEnded 22 = .ok (.iload_n 1, 1) := by decide +kernel
theorem dX4_dropEnded_23 : decode cX4_dropEnded 23 = .ok (.invokevirtual 33, 3) := by decide +kernel
theorem dX4_dropEnded_26 : decode cX4_dropEnded 26 = .ok (.ifCond .eq 8, 3) := by decide +kernel
theorem dX4_dropEnded_29 : decode cX4_dropEnded 29 = .ok (.aload_n 0, 1) := by decide +kernel
theorem dX4_dropEnded_30 : decode cX4_dropEnded 30 = .ok (.iload_n 2, 1) := by decide +kernel
theorem dX4_dropEnded_31 : decode cX4_dropEnded 31 = .ok (.invokevirtual 37, 3) := by decide +kernel
theorem dX4_dropEnded_34 : decode cX4_dropEnded 34 = .ok (.iinc 2 (-1), 3) := by decide +kernel
theorem dX4_dropEnded_37 : decode cX4_dropEnded 37 = .ok (.goto (-30), 3) := by decide +kernel
theorem dX4_dropEnded_40 : decode cX4_dropEnded 40 = .ok (.return_, 1) := by decide +kernel
set_option maxRecDepth 20000 in
theorem ggX4_dropSounds_X4_entryAt : GoodIn wsX4_dropSounds wsX4_entryAt := goodIn_r _ [7, 1, 8, 13, 14] (by decide +kernel) (by decide +kernel)
set_option maxRecDepth 20000 in
theorem gX4_dropSounds_X4_entryAt : GoodIn wsX4_dropSounds (wsV RX4 29 RX4 yX4_entryAt wsX4_entryAt) := goodIn_app (goodIn_of _ (by decide +kernel)) ggX4_dropSounds_X4_entryAt
set_option maxRecDepth 20000 in
theorem ggX4_dropSounds_X4_drop : GoodIn wsX4_dropSounds wsX4_drop := goodIn_r _ [12, 8, 1, 3, 4, 5, 6, 7, 13, 14] (by decide +kernel) (by decide +kernel)
set_option maxRecDepth 20000 in
theorem gX4_dropSounds_X4_drop : GoodIn wsX4_dropSounds (wsV RX4 37 RX4 yX4_drop wsX4_drop) := goodIn_app (goodIn_of _ (by decide +kernel)) ggX4_dropSounds_X4_drop
theorem dX4_dropSounds_0 : decode cX4_dropSounds 0 = .ok (.aload_n 0, 1) := by decide +kernel
theorem dX4_dropSounds_1 : decode cX4_dropSounds 1 = .ok (.getfield 18, 3) := by decide +kernel
theorem dX4_dropSounds_4 : decode cX4_dropSounds 4 = .ok (.iconst 1, 1) := by decide +kernel
theorem dX4_dropSounds_5 : decode cX4_dropSounds 5 = .ok (.isub, 1) := by decide +kernel
theorem dX4_dropSounds_6 : decode cX4_dropSounds 6 = .ok (.istore_n 1, 1) := by decide +kernel
theorem dX4_dropSounds_7 : decode cX4_dropSounds 7 = .ok (.iload_n 1, 1) := by decide +kernel
theorem dX4_dropSounds_8 : decode cX4_dropSounds 8 = .ok (.ifCond .lt 31, 3) := by decide +kernel
theorem dX4_dropSounds_11 : decode cX4_dropSounds 11 = .ok (.aload_n 0, 1) := by decide +kernel
theorem dX4_dropSounds_12 : decode cX4_dropSounds 12 = .ok (.iload_n 1, 1) := by decide +kernel
theorem dX4_dropSounds_13 : decode cX4_dropSounds 13 = .ok (.invokevirtual 29, 3) := by decide +kernel
theorem dX4_dropSounds_16 : decode cX4_dropSounds 16 = .ok (.astore_n 2, 1) := by decide +kernel
theorem dX4_dropSounds_17 : decode cX4_dropSounds 17 = .ok (.aload_n 2, 1) := by decide +kernel
theorem dX4_dropSounds_18 : decode cX4_dropSounds 18 = .ok (.ifnull 15, 3) := by decide +kernel
theorem dX4_dropSounds_21 : decode cX4_dropSounds 21 = .ok (.aload_n 2, 1) := by decide +kernel
theorem dX4_dropSounds_22 : decode cX4_dropSounds 22 = .ok (.getfield 41, 3) := by decide +kernel
theorem dX4_dropSounds_25 : decode cX4_dropSounds 25 = .ok (.ifCond .eq 8, 3) := by decide +kernel
theorem dX4_dropSounds_28 : decode cX4_dropSounds 28 = .ok (.aload_n 0, 1) := by decide +kernel
theorem dX4_dropSounds_29 : decode cX4_dropSounds 29 = .ok (.iload_n 1, 1) := by decide +kernel
theorem dX4_dropSounds_30 : decode cX4_dropSounds 30 = .ok (.invokevirtual 37, 3) := by decide +kernel
theorem dX4_dropSounds_33 : decode cX4_dropSounds 33 = .ok (.iinc 1 (-1), 3) := by decide +kernel
theorem dX4_dropSounds_36 : decode cX4_dropSounds 36 = .ok (.goto (-29), 3) := by decide +kernel
theorem dX4_dropSounds_39 : decode cX4_dropSounds 39 = .ok (.return_, 1) := by decide +kernel
theorem dX4_hasSound_0 : decode cX4_hasSound 0 = .ok (.iconst 0, 1) := by decide +kernel
theorem dX4_hasSound_1 : decode cX4_hasSound 1 = .ok (.istore_n 1, 1) := by decide +kernel
theorem dX4_hasSound_2 : decode cX4_hasSound 2 = .ok (.iload_n 1, 1) := by decide +kernel
theorem dX4_hasSound_3 : decode cX4_hasSound 3 = .ok (.aload_n 0, 1) := by decide +kernel
theorem dX4_hasSound_4 : decode cX4_hasSound 4 = .ok (.getfield 18, 3) := by decide +kernel
theorem dX4_hasSound_7 : decode cX4_hasSound 7 = .ok (.if_icmp .ge 32, 3) := by decide +kernel
theorem dX4_hasSound_10 : decode cX4_hasSound 10 = .ok (.iload_n 1, 1) := by decide +kernel
theorem dX4_hasSound_11 : decode cX4_hasSound 11 = .ok (.aload_n 0, 1) := by decide +kernel
theorem dX4_hasSound_12 : decode cX4_hasSound 12 = .ok (.getfield 11, 3) := by decide +kernel
theorem dX4_hasSound_15 : decode cX4_hasSound 15 = .ok (.arraylength, 1) := by decide +kernel
theorem dX4_hasSound_16 : decode cX4_hasSound 16 = .ok (.if_icmp .ge 23, 3) := by decide +kernel
theorem dX4_hasSound_19 : decode cX4_hasSound 19 = .ok (.aload_n 0, 1) := by decide +kernel
theorem dX4_hasSound_20 : decode cX4_hasSound 20 = .ok (.getfield 11, 3) := by decide +kernel
theorem dX4_hasSound_23 : decode cX4_hasSound 23 = .ok (.iload_n 1, 1) := by decide +kernel
theorem dX4_hasSound_24 : decode cX4_hasSound 24 = .ok (.aaload, 1) := by decide +kernel
theorem dX4_hasSound_25 : decode cX4_hasSound 25 = .ok (.getfield 41, 3) := by decide +kernel
theorem dX4_hasSound_28 : decode cX4_hasSound 28 = .ok (.ifCond .eq 5, 3) := by decide +kernel
theorem dX4_hasSound_31 : decode cX4_hasSound 31 = .ok (.iconst 1, 1) := by decide +kernel
theorem dX4_hasSound_32 : decode cX4_hasSound 32 = .ok (.ireturn, 1) := by decide +kernel
theorem dX4_hasSound_33 : decode cX4_hasSound 33 = .ok (.iinc 1 1, 3) := by decide +kernel
theorem dX4_hasSound_36 : decode cX4_hasSound 36 = .ok (.goto (-34), 3) := by decide +kernel
theorem dX4_hasSound_39 : decode cX4_hasSound 39 = .ok (.iconst 0, 1) := by decide +kernel
theorem dX4_hasSound_40 : decode cX4_hasSound 40 = .ok (.ireturn, 1) := by decide +kernel
set_option maxRecDepth 20000 in
theorem ggX4_soundsHeard_X1_isHeardIn : GoodIn wsX4_soundsHeard wsX1_isHeardIn := goodIn_r _ [8, 9, 10, 11, 14, 15, 16, 17, 18] (by decide +kernel) (by decide +kernel)
set_option maxRecDepth 20000 in
theorem gX4_soundsHeard_X1_isHeardIn : GoodIn wsX4_soundsHeard (wsV RX4 48 RX1 yX1_isHeardIn wsX1_isHeardIn) := goodIn_app (goodIn_of _ (by decide +kernel)) ggX4_soundsHeard_X1_isHeardIn
theorem dX4_soundsHeard_0 : decode cX4_soundsHeard 0 = .ok (.iconst 0, 1) := by decide +kernel
theorem dX4_soundsHeard_1 : decode cX4_soundsHeard 1 = .ok (.istore_n 3, 1) := by decide +kernel
theorem dX4_soundsHeard_2 : decode cX4_soundsHeard 2 = .ok (.iconst 0, 1) := by decide +kernel
theorem dX4_soundsHeard_3 : decode cX4_soundsHeard 3 = .ok (.istore 4, 2) := by decide +kernel
theorem dX4_soundsHeard_5 : decode cX4_soundsHeard 5 = .ok (.iload 4, 2) := by decide +kernel
theorem dX4_soundsHeard_7 : decode cX4_soundsHeard 7 = .ok (.aload_n 0, 1) := by decide +kernel
theorem dX4_soundsHeard_8 : decode cX4_soundsHeard 8 = .ok (.getfield 18, 3) := by decide +kernel
theorem dX4_soundsHeard_11 : decode cX4_soundsHeard 11 = .ok (.if_icmp .ge 50, 3) := by decide +kernel
theorem dX4_soundsHeard_14 : decode cX4_soundsHeard 14 = .ok (.iload 4, 2) := by decide +kernel
theorem dX4_soundsHeard_16 : decode cX4_soundsHeard 16 = .ok (.aload_n 0, 1) := by decide +kernel
theorem dX4_soundsHeard_17 : decode cX4_soundsHeard 17 = .ok (.getfield 11, 3) := by decide +kernel
theorem dX4_soundsHeard_20 : decode cX4_soundsHeard 20 = .ok (.arraylength, 1) := by decide +kernel
theorem dX4_soundsHeard_21 : decode cX4_soundsHeard 21 = .ok (.if_icmp .ge 40, 3) := by decide +kernel
theorem dX4_soundsHeard_24 : decode cX4_soundsHeard 24 = .ok (.aload_n 0, 1) := by decide +kernel
theorem dX4_soundsHeard_25 : decode cX4_soundsHeard 25 = .ok (.getfield 11, 3) := by decide +kernel
theorem dX4_soundsHeard_28 : decode cX4_soundsHeard 28 = .ok (.iload 4, 2) := by decide +kernel
theorem dX4_soundsHeard_30 : decode cX4_soundsHeard 30 = .ok (.aaload, 1) := by decide +kernel
theorem dX4_soundsHeard_31 : decode cX4_soundsHeard 31 = .ok (.getfield 45, 3) := by decide +kernel
theorem dX4_soundsHeard_34 : decode cX4_soundsHeard 34 = .ok (.iload_n 1, 1) := by decide +kernel
theorem dX4_soundsHeard_35 : decode cX4_soundsHeard 35 = .ok (.if_icmp .ne 20, 3) := by decide +kernel
theorem dX4_soundsHeard_38 : decode cX4_soundsHeard 38 = .ok (.aload_n 0, 1) := by decide +kernel
theorem dX4_soundsHeard_39 : decode cX4_soundsHeard 39 = .ok (.getfield 11, 3) := by decide +kernel
theorem dX4_soundsHeard_42 : decode cX4_soundsHeard 42 = .ok (.iload 4, 2) := by decide +kernel
theorem dX4_soundsHeard_44 : decode cX4_soundsHeard 44 = .ok (.aaload, 1) := by decide +kernel
theorem dX4_soundsHeard_45 : decode cX4_soundsHeard 45 = .ok (.iload_n 2, 1) := by decide +kernel
theorem dX4_soundsHeard_46 : decode cX4_soundsHeard 46 = .ok (.invokevirtual 48, 3) := by decide +kernel
theorem dX4_soundsHeard_49 : decode cX4_soundsHeard 49 = .ok (.ifCond .eq 6, 3) := by decide +kernel
theorem dX4_soundsHeard_52 : decode cX4_soundsHeard 52 = .ok (.iinc 3 1, 3) := by decide +kernel
theorem dX4_soundsHeard_55 : decode cX4_soundsHeard 55 = .ok (.iinc 4 1, 3) := by decide +kernel
theorem dX4_soundsHeard_58 : decode cX4_soundsHeard 58 = .ok (.goto (-53), 3) := by decide +kernel
theorem dX4_soundsHeard_61 : decode cX4_soundsHeard 61 = .ok (.iload_n 3, 1) := by decide +kernel
theorem dX4_soundsHeard_62 : decode cX4_soundsHeard 62 = .ok (.ireturn, 1) := by decide +kernel
theorem dX5_init_0 : decode cX5_init 0 = .ok (.aload_n 0, 1) := by decide +kernel
theorem dX5_init_1 : decode cX5_init 1 = .ok (.invokespecial 3, 3) := by decide +kernel
theorem dX5_init_4 : decode cX5_init 4 = .ok (.aload_n 0, 1) := by decide +kernel
theorem dX5_init_5 : decode cX5_init 5 = .ok (.bipush 32, 2) := by decide +kernel
theorem dX5_init_7 : decode cX5_init 7 = .ok (.newarray .int, 2) := by decide +kernel
theorem dX5_init_9 : decode cX5_init 9 = .ok (.putfield 9, 3) := by decide +kernel
theorem dX5_init_12 : decode cX5_init 12 = .ok (.return_, 1) := by decide +kernel
theorem dX5_begin_0 : decode cX5_begin 0 = .ok (.aload_n 0, 1) := by decide +kernel
theorem dX5_begin_1 : decode cX5_begin 1 = .ok (.iload_n 1, 1) := by decide +kernel
theorem dX5_begin_2 : decode cX5_begin 2 = .ok (.putfield 15, 3) := by decide +kernel
theorem dX5_begin_5 : decode cX5_begin 5 = .ok (.aload_n 0, 1) := by decide +kernel
theorem dX5_begin_6 : decode cX5_begin 6 = .ok (.iload_n 2, 1) := by decide +kernel
theorem dX5_begin_7 : decode cX5_begin 7 = .ok (.putfield 19, 3) := by decide +kernel
theorem dX5_begin_10 : decode cX5_begin 10 = .ok (.aload_n 0, 1) := by decide +kernel
theorem dX5_begin_11 : decode cX5_begin 11 = .ok (.iload_n 3, 1) := by decide +kernel
theorem dX5_begin_12 : decode cX5_begin 12 = .ok (.putfield 22, 3) := by decide +kernel
theorem dX5_begin_15 : decode cX5_begin 15 = .ok (.return_, 1) := by decide +kernel
theorem dX5_copyFrom_0 : decode cX5_copyFrom 0 = .ok (.aload_n 0, 1) := by decide +kernel
theorem dX5_copyFrom_1 : decode cX5_copyFrom 1 = .ok (.aload_n 1, 1) := by decide +kernel
theorem dX5_copyFrom_2 : decode cX5_copyFrom 2 = .ok (.getfield 15, 3) := by decide +kernel
theorem dX5_copyFrom_5 : decode cX5_copyFrom 5 = .ok (.putfield 15, 3) := by decide +kernel
theorem dX5_copyFrom_8 : decode cX5_copyFrom 8 = .ok (.aload_n 0, 1) := by decide +kernel
theorem dX5_copyFrom_9 : decode cX5_copyFrom 9 = .ok (.aload_n 1, 1) := by decide +kernel
theorem dX5_copyFrom_10 : decode cX5_copyFrom 10 = .ok (.getfield 19, 3) := by decide +kernel
theorem dX5_copyFrom_13 : decode cX5_copyFrom 13 = .ok (.putfield 19, 3) := by decide +kernel
theorem dX5_copyFrom_16 : decode cX5_copyFrom 16 = .ok (.aload_n 0, 1) := by decide +kernel
theorem dX5_copyFrom_17 : decode cX5_copyFrom 17 = .ok (.aload_n 1, 1) := by decide +kernel
theorem dX5_copyFrom_18 : decode cX5_copyFrom 18 = .ok (.getfield 25, 3) := by decide +kernel
theorem dX5_copyFrom_21 : decode cX5_copyFrom 21 = .ok (.putfield 25, 3) := by decide +kernel
theorem dX5_copyFrom_24 : decode cX5_copyFrom 24 = .ok (.aload_n 0, 1) := by decide +kernel
theorem dX5_copyFrom_25 : decode cX5_copyFrom 25 = .ok (.aload_n 1, 1) := by decide +kernel
theorem dX5_copyFrom_26 : decode cX5_copyFrom 26 = .ok (.getfield 28, 3) := by decide +kernel
theorem dX5_copyFrom_29 : decode cX5_copyFrom 29 = .ok (.putfield 28, 3) := by decide +kernel
theorem dX5_copyFrom_32 : decode cX5_copyFrom 32 = .ok (.aload_n 0, 1) := by decide +kernel
theorem dX5_copyFrom_33 : decode cX5_copyFrom 33 = .ok (.aload_n 1, 1) := by decide +kernel
theorem dX5_copyFrom_34 : decode cX5_copyFrom 34 = .ok (.getfield 31, 3) := by decide +kernel
theorem dX5_copyFrom_37 : decode cX5_copyFrom 37 = .ok (.putfield 31, 3) := by decide +kernel
theorem dX5_copyFrom_40 : decode cX5_copyFrom 40 = .ok (.aload_n 0, 1) := by decide +kernel
theorem dX5_copyFrom_41 : decode cX5_copyFrom 41 = .ok (.aload_n 1, 1) := by decide +kernel
theorem dX5_copyFrom_42 : decode cX5_copyFrom 42 = .ok (.getfield 22, 3) := by decide +kernel
theorem dX5_copyFrom_45 : decode cX5_copyFrom 45 = .ok (.putfield 22, 3) := by decide +kernel
theorem dX5_copyFrom_48 : decode cX5_copyFrom 48 = .ok (.aload_n 1, 1) := by decide +kernel
theorem dX5_copyFrom_49 : decode cX5_copyFrom 49 = .ok (.getfield 9, 3) := by decide +kernel
theorem dX5_copyFrom_52 : decode cX5_copyFrom 52 = .ok (.iconst 0, 1) := by decide +kernel
theorem dX5_copyFrom_53 : decode cX5_copyFrom 53 = .ok (.aload_n 0, 1) := by decide +kernel
theorem dX5_copyFrom_54 : decode cX5_copyFrom 54 = .ok (.getfield 9, 3) := by decide +kernel
theorem dX5_copyFrom_57 : decode cX5_copyFrom 57 = .ok (.iconst 0, 1) := by decide +kernel
theorem dX5_copyFrom_58 : decode cX5_copyFrom 58 = .ok (.bipush 32, 2) := by decide +kernel
theorem dX5_copyFrom_60 : decode cX5_copyFrom 60 = .ok (.invokestatic 34, 3) := by decide +kernel
theorem dX5_copyFrom_63 : decode cX5_copyFrom 63 = .ok (.return_, 1) := by decide +kernel
theorem dX5_density_0 : decode cX5_density 0 = .ok (.aload_n 0, 1) := by decide +kernel
theorem dX5_density_1 : decode cX5_density 1 = .ok (.getfield 15, 3) := by decide +kernel
theorem dX5_density_4 : decode cX5_density 4 = .ok (.ifCond .le 15, 3) := by decide +kernel
theorem dX5_density_7 : decode cX5_density 7 = .ok (.aload_n 0, 1) := by decide +kernel
theorem dX5_density_8 : decode cX5_density 8 = .ok (.getfield 25, 3) := by decide +kernel
theorem dX5_density_11 : decode cX5_density 11 = .ok (.aload_n 0, 1) := by decide +kernel
theorem dX5_density_12 : decode cX5_density 12 = .ok (.getfield 15, 3) := by decide +kernel
theorem dX5_density_15 : decode cX5_density 15 = .ok (.idiv, 1) := by decide +kernel
theorem dX5_density_16 : decode cX5_density 16 = .ok (.goto 4, 3) := by decide +kernel
theorem dX5_density_19 : decode cX5_density 19 = .ok (.iconst 0, 1) := by decide +kernel
theorem dX5_density_20 : decode cX5_density 20 = .ok (.ireturn, 1) := by decide +kernel
set_option maxRecDepth 20000 in
theorem ggX5_energyAheadOf_J9_floorMod_7cf53 : GoodIn wsX5_energyAheadOf wsJ9_floorMod_7cf53 := goodIn_r _ [5] (by decide +kernel) (by decide +kernel)
set_option maxRecDepth 20000 in
theorem gX5_energyAheadOf_J9_floorMod_7cf53 : GoodIn wsX5_energyAheadOf (va_wsS RX5 40 yJ9_floorMod_7cf53 wsJ9_floorMod_7cf53) := goodIn_app (goodIn_of _ (by decide +kernel)) ggX5_energyAheadOf_J9_floorMod_7cf53
theorem dX5_energyAheadOf_0 : decode cX5_energyAheadOf 0 = .ok (.aload_n 0, 1) := by decide +kernel
theorem dX5_energyAheadOf_1 : decode cX5_energyAheadOf 1 = .ok (.getfield 9, 3) := by decide +kernel
theorem dX5_energyAheadOf_4 : decode cX5_energyAheadOf 4 = .ok (.iload_n 1, 1) := by decide +kernel
theorem dX5_energyAheadOf_5 : decode cX5_energyAheadOf 5 = .ok (.bipush 32, 2) := by decide +kernel
theorem dX5_energyAheadOf_7 : decode cX5_energyAheadOf 7 = .ok (.invokestatic 40, 3) := by decide +kernel
theorem dX5_energyAheadOf_10 : decode cX5_energyAheadOf 10 = .ok (.iaload, 1) := by decide +kernel
theorem dX5_energyAheadOf_11 : decode cX5_energyAheadOf 11 = .ok (.ireturn, 1) := by decide +kernel
set_option maxRecDepth 20000 in
theorem ggX5_keepEnergy_J9_floorMod_7cf53 : GoodIn wsX5_keepEnergy wsJ9_floorMod_7cf53 := goodIn_r _ [6] (by decide +kernel) (by decide +kernel)
set_option maxRecDepth 20000 in
theorem gX5_keepEnergy_J9_floorMod_7cf53 : GoodIn wsX5_keepEnergy (va_wsS RX5 40 yJ9_floorMod_7cf53 wsJ9_floorMod_7cf53) := goodIn_app (goodIn_of _ (by decide +kernel)) ggX5_keepEnergy_J9_floorMod_7cf53
theorem dX5_keepEnergy_0 : decode cX5_keepEnergy 0 = .ok (.aload_n 0, 1) := by decide +kernel
theorem dX5_keepEnergy_1 : decode cX5_keepEnergy 1 = .ok (.getfield 9, 3) := by decide +kernel
theorem dX5_keepEnergy_4 : decode cX5_keepEnergy 4 = .ok (.iload_n 1, 1) := by decide +kernel
theorem dX5_keepEnergy_5 : decode cX5_keepEnergy 5 = .ok (.bipush 32, 2) := by decide +kernel
theorem dX5_keepEnergy_7 : decode cX5_keepEnergy 7 = .ok (.invokestatic 40, 3) := by decide +kernel
theorem dX5_keepEnergy_10 : decode cX5_keepEnergy 10 = .ok (.aload_n 0, 1) := by decide +kernel
theorem dX5_keepEnergy_11 : decode cX5_keepEnergy 11 = .ok (.getfield 25, 3) := by decide +kernel
theorem dX5_keepEnergy_14 : decode cX5_keepEnergy 14 = .ok (.iastore, 1) := by decide +kernel
theorem dX5_keepEnergy_15 : decode cX5_keepEnergy 15 = .ok (.return_, 1) := by decide +kernel
theorem dX5_hear_0 : decode cX5_hear 0 = .ok (.aload_n 0, 1) := by decide +kernel
theorem dX5_hear_1 : decode cX5_hear 1 = .ok (.dup, 1) := by decide +kernel
theorem dX5_hear_2 : decode cX5_hear 2 = .ok (.getfield 25, 3) := by decide +kernel
theorem dX5_hear_5 : decode cX5_hear 5 = .ok (.iload_n 1, 1) := by decide +kernel
theorem dX5_hear_6 : decode cX5_hear 6 = .ok (.iadd, 1) := by decide +kernel
theorem dX5_hear_7 : decode cX5_hear 7 = .ok (.putfield 25, 3) := by decide +kernel
theorem dX5_hear_10 : decode cX5_hear 10 = .ok (.aload_n 0, 1) := by decide +kernel
theorem dX5_hear_11 : decode cX5_hear 11 = .ok (.dup, 1) := by decide +kernel
theorem dX5_hear_12 : decode cX5_hear 12 = .ok (.getfield 31, 3) := by decide +kernel
theorem dX5_hear_15 : decode cX5_hear 15 = .ok (.iload_n 1, 1) := by decide +kernel
theorem dX5_hear_16 : decode cX5_hear 16 = .ok (.iadd, 1) := by decide +kernel
theorem dX5_hear_17 : decode cX5_hear 17 = .ok (.putfield 31, 3) := by decide +kernel
theorem dX5_hear_20 : decode cX5_hear 20 = .ok (.return_, 1) := by decide +kernel
theorem dX5_absorbShare_0 : decode cX5_absorbShare 0 = .ok (.aload_n 0, 1) := by decide +kernel
theorem dX5_absorbShare_1 : decode cX5_absorbShare 1 = .ok (.getfield 25, 3) := by decide +kernel
theorem dX5_absorbShare_4 : decode cX5_absorbShare 4 = .ok (.i2l, 1) := by decide +kernel
theorem dX5_absorbShare_5 : decode cX5_absorbShare 5 = .ok (.aload_n 0, 1) := by decide +kernel
theorem dX5_absorbShare_6 : decode cX5_absorbShare 6 = .ok (.getfield 19, 3) := by decide +kernel
theorem dX5_absorbShare_9 : decode cX5_absorbShare 9 = .ok (.i2l, 1) := by decide +kernel
theorem dX5_absorbShare_10 : decode cX5_absorbShare 10 = .ok (.lmul, 1) := by decide +kernel
theorem dX5_absorbShare_11 : decode cX5_absorbShare 11 = .ok (.ldc2_w 46, 3) := by decide +kernel
theorem dX5_absorbShare_14 : decode cX5_absorbShare 14 = .ok (.ladd, 1) := by decide +kernel
theorem dX5_absorbShare_15 : decode cX5_absorbShare 15 = .ok (.ldc2_w 48, 3) := by decide +kernel
theorem dX5_absorbShare_18 : decode cX5_absorbShare 18 = .ok (.ldiv, 1) := by decide +kernel
theorem dX5_absorbShare_19 : decode cX5_absorbShare 19 = .ok (.l2i, 1) := by decide +kernel
theorem dX5_absorbShare_20 : decode cX5_absorbShare 20 = .ok (.istore_n 1, 1) := by decide +kernel
theorem dX5_absorbShare_21 : decode cX5_absorbShare 21 = .ok (.aload_n 0, 1) := by decide +kernel
theorem dX5_absorbShare_22 : decode cX5_absorbShare 22 = .ok (.dup, 1) := by decide +kernel
theorem dX5_absorbShare_23 : decode cX5_absorbShare 23 = .ok (.getfield 25, 3) := by decide +kernel
theorem dX5_absorbShare_26 : decode cX5_absorbShare 26 = .ok (.iload_n 1, 1) := by decide +kernel
theorem dX5_absorbShare_27 : decode cX5_absorbShare 27 = .ok (.isub, 1) := by decide +kernel
theorem dX5_absorbShare_28 : decode cX5_absorbShare 28 = .ok (.putfield 25, 3) := by decide +kernel
theorem dX5_absorbShare_31 : decode cX5_absorbShare 31 = .ok (.aload_n 0, 1) := by decide +kernel
theorem dX5_absorbShare_32 : decode cX5_absorbShare 32 = .ok (.dup, 1) := by decide +kernel
theorem dX5_absorbShare_33 : decode cX5_absorbShare 33 = .ok (.getfield 28, 3) := by decide +kernel
theorem dX5_absorbShare_36 : decode cX5_absorbShare 36 = .ok (.iload_n 1, 1) := by decide +kernel
theorem dX5_absorbShare_37 : decode cX5_absorbShare 37 = .ok (.iadd, 1) := by decide +kernel
theorem dX5_absorbShare_38 : decode cX5_absorbShare 38 = .ok (.putfield 28, 3) := by decide +kernel
theorem dX5_absorbShare_41 : decode cX5_absorbShare 41 = .ok (.return_, 1) := by decide +kernel
theorem dX5_shareThrough_0 : decode cX5_shareThrough 0 = .ok (.aload_n 0, 1) := by decide +kernel
theorem dX5_shareThrough_1 : decode cX5_shareThrough 1 = .ok (.getfield 15, 3) := by decide +kernel
theorem dX5_shareThrough_4 : decode cX5_shareThrough 4 = .ok (.ifCond .gt 5, 3) := by decide +kernel
theorem dX5_shareThrough_7 : decode cX5_shareThrough 7 = .ok (.iconst 0, 1) := by decide +kernel
theorem dX5_shareThrough_8 : decode cX5_shareThrough 8 = .ok (.ireturn, 1) := by decide +kernel
theorem dX5_shareThrough_9 : decode cX5_shareThrough 9 = .ok (.aload_n 0, 1) := by decide +kernel
theorem dX5_shareThrough_10 : decode cX5_shareThrough 10 = .ok (.getfield 25, 3) := by decide +kernel
theorem dX5_shareThrough_13 : decode cX5_shareThrough 13 = .ok (.i2l, 1) := by decide +kernel
theorem dX5_shareThrough_14 : decode cX5_shareThrough 14 = .ok (.aload_n 1, 1) := by decide +kernel
theorem dX5_shareThrough_15 : decode cX5_shareThrough 15 = .ok (.getfield 50, 3) := by decide +kernel
theorem dX5_shareThrough_18 : decode cX5_shareThrough 18 = .ok (.i2l, 1) := by decide +kernel
theorem dX5_shareThrough_19 : decode cX5_shareThrough 19 = .ok (.lmul, 1) := by decide +kernel
theorem dX5_shareThrough_20 : decode cX5_shareThrough 20 = .ok (.aload_n 1, 1) := by decide +kernel
theorem dX5_shareThrough_21 : decode cX5_shareThrough 21 = .ok (.getfield 55, 3) := by decide +kernel
theorem dX5_shareThrough_24 : decode cX5_shareThrough 24 = .ok (.i2l, 1) := by decide +kernel
theorem dX5_shareThrough_25 : decode cX5_shareThrough 25 = .ok (.lmul, 1) := by decide +kernel
theorem dX5_shareThrough_26 : decode cX5_shareThrough 26 = .ok (.ldc2_w 58, 3) := by decide +kernel
theorem dX5_shareThrough_29 : decode cX5_shareThrough 29 = .ok (.aload_n 0, 1) := by decide +kernel
theorem dX5_shareThrough_30 : decode cX5_shareThrough 30 = .ok (.getfield 15, 3) := by decide +kernel
theorem dX5_shareThrough_33 : decode cX5_shareThrough 33 = .ok (.i2l, 1) := by decide +kernel
theorem dX5_shareThrough_34 : decode cX5_shareThrough 34 = .ok (.lmul, 1) := by decide +kernel
theorem dX5_shareThrough_35 : decode cX5_shareThrough 35 = .ok (.ldiv, 1) := by decide +kernel
theorem dX5_shareThrough_36 : decode cX5_shareThrough 36 = .ok (.l2i, 1) := by decide +kernel
theorem dX5_shareThrough_37 : decode cX5_shareThrough 37 = .ok (.ireturn, 1) := by decide +kernel
set_option maxRecDepth 20000 in
theorem ggX6_init_X1_init : GoodIn wsX6_init wsX1_init := goodIn_r _ [11, 12, 2, 3] (by decide +kernel) (by decide +kernel)
set_option maxRecDepth 20000 in
theorem gX6_init_X1_init_n17 : GoodIn wsX6_init (wsX1_init) := ggX6_init_X1_init
theorem dX6_init_0 : decode cX6_init 0 = .ok (.aload_n 0, 1) := by decide +kernel
theorem dX6_init_1 : decode cX6_init 1 = .ok (.invokespecial 3, 3) := by decide +kernel
theorem dX6_init_4 : decode cX6_init 4 = .ok (.aload_n 0, 1) := by decide +kernel
theorem dX6_init_5 : decode cX6_init 5 = .ok (.bipush 80, 2) := by decide +kernel
theorem dX6_init_7 : decode cX6_init 7 = .ok (.newarray .char, 2) := by decide +kernel
theorem dX6_init_9 : decode cX6_init 9 = .ok (.putfield 9, 3) := by decide +kernel
theorem dX6_init_12 : decode cX6_init 12 = .ok (.aload_n 0, 1) := by decide +kernel
theorem dX6_init_13 : decode cX6_init 13 = .ok (.new 15, 3) := by decide +kernel
theorem dX6_init_16 : decode cX6_init 16 = .ok (.dup, 1) := by decide +kernel
theorem dX6_init_17 : decode cX6_init 17 = .ok (.invokespecial 17, 3) := by decide +kernel
theorem dX6_init_20 : decode cX6_init 20 = .ok (.putfield 18, 3) := by decide +kernel
theorem dX6_init_23 : decode cX6_init 23 = .ok (.return_, 1) := by decide +kernel
theorem dX6_append_0 : decode cX6_append 0 = .ok (.aload_n 0, 1) := by decide +kernel
theorem dX6_append_1 : decode cX6_append 1 = .ok (.getfield 22, 3) := by decide +kernel
theorem dX6_append_4 : decode cX6_append 4 = .ok (.ifCond .lt 35, 3) := by decide +kernel
theorem dX6_append_7 : decode cX6_append 7 = .ok (.aload_n 0, 1) := by decide +kernel
theorem dX6_append_8 : decode cX6_append 8 = .ok (.getfield 22, 3) := by decide +kernel
theorem dX6_append_11 : decode cX6_append 11 = .ok (.aload_n 0, 1) := by decide +kernel
theorem dX6_append_12 : decode cX6_append 12 = .ok (.getfield 9, 3) := by decide +kernel
theorem dX6_append_15 : decode cX6_append 15 = .ok (.arraylength, 1) := by decide +kernel
theorem dX6_append_16 : decode cX6_append 16 = .ok (.if_icmp .ge 23, 3) := by decide +kernel
theorem dX6_append_19 : decode cX6_append 19 = .ok (.aload_n 0, 1) := by decide +kernel
theorem dX6_append_20 : decode cX6_append 20 = .ok (.getfield 9, 3) := by decide +kernel
theorem dX6_append_23 : decode cX6_append 23 = .ok (.aload_n 0, 1) := by decide +kernel
theorem dX6_append_24 : decode cX6_append 24 = .ok (.getfield 22, 3) := by decide +kernel
theorem dX6_append_27 : decode cX6_append 27 = .ok (.iload_n 1, 1) := by decide +kernel
theorem dX6_append_28 : decode cX6_append 28 = .ok (.castore, 1) := by decide +kernel
theorem dX6_append_29 : decode cX6_append 29 = .ok (.aload_n 0, 1) := by decide +kernel
theorem dX6_append_30 : decode cX6_append 30 = .ok (.dup, 1) := by decide +kernel
theorem dX6_append_31 : decode cX6_append 31 = .ok (.getfield 22, 3) := by decide +kernel
theorem dX6_append_34 : decode cX6_append 34 = .ok (.iconst 1, 1) := by decide +kernel
theorem dX6_append_35 : decode cX6_append 35 = .ok (.iadd, 1) := by decide +kernel
