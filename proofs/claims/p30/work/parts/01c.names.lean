/-! names, words, instructions (of claim/NAMES.whole.lean.txt) -/
theorem dX4_copyFrom_5 : decode cX4_copyFrom 5 = .ok (.putfield 18, 3) := by decide +kernel
theorem dX4_copyFrom_8 : decode cX4_copyFrom 8 = .ok (.iconst 0, 1) := by decide +kernel
theorem dX4_copyFrom_9 : decode cX4_copyFrom 9 = .ok (.istore_n 2, 1) := by decide +kernel
theorem dX4_copyFrom_10 : decode cX4_copyFrom 10 = .ok (.iload_n 2, 1) := by decide +kernel
theorem dX4_copyFrom_11 : decode cX4_copyFrom 11 = .ok (.aload_n 0, 1) := by decide +kernel
theorem dX4_copyFrom_12 : decode cX4_copyFrom 12 = .ok (.getfield 11, 3) := by decide +kernel
theorem dX4_copyFrom_15 : decode cX4_copyFrom 15 = .ok (.arraylength, 1) := by decide +kernel
theorem dX4_copyFrom_16 : decode cX4_copyFrom 16 = .ok (.if_icmp .ge 33, 3) := by decide +kernel
theorem dX4_copyFrom_19 : decode cX4_copyFrom 19 = .ok (.iload_n 2, 1) := by decide +kernel
theorem dX4_copyFrom_20 : decode cX4_copyFrom 20 = .ok (.aload_n 1, 1) := by decide +kernel
theorem dX4_copyFrom_21 : decode cX4_copyFrom 21 = .ok (.getfield 11, 3) := by decide +kernel
theorem dX4_copyFrom_24 : decode cX4_copyFrom 24 = .ok (.arraylength, 1) := by decide +kernel
theorem dX4_copyFrom_25 : decode cX4_copyFrom 25 = .ok (.if_icmp .ge 24, 3) := by decide +kernel
theorem dX4_copyFrom_28 : decode cX4_copyFrom 28 = .ok (.aload_n 0, 1) := by decide +kernel
theorem dX4_copyFrom_29 : decode cX4_copyFrom 29 = .ok (.getfield 11, 3) := by decide +kernel
theorem dX4_copyFrom_32 : decode cX4_copyFrom 32 = .ok (.iload_n 2, 1) := by decide +kernel
theorem dX4_copyFrom_33 : decode cX4_copyFrom 33 = .ok (.aaload, 1) := by decide +kernel
theorem dX4_copyFrom_34 : decode cX4_copyFrom 34 = .ok (.aload_n 1, 1) := by decide +kernel
theorem dX4_copyFrom_35 : decode cX4_copyFrom 35 = .ok (.getfield 11, 3) := by decide +kernel
theorem dX4_copyFrom_38 : decode cX4_copyFrom 38 = .ok (.iload_n 2, 1) := by decide +kernel
theorem dX4_copyFrom_39 : decode cX4_copyFrom 39 = .ok (.aaload, 1) := by decide +kernel
theorem dX4_copyFrom_40 : decode cX4_copyFrom 40 = .ok (.invokevirtual 22, 3) := by decide +kernel
theorem dX4_copyFrom_43 : decode cX4_copyFrom 43 = .ok (.iinc 2 1, 3) := by decide +kernel
theorem dX4_copyFrom_46 : decode cX4_copyFrom 46 = .ok (.goto (-36), 3) := by decide +kernel
theorem dX4_copyFrom_49 : decode cX4_copyFrom 49 = .ok (.return_, 1) := by decide +kernel
theorem dX4_isFull_0 : decode cX4_isFull 0 = .ok (.aload_n 0, 1) := by decide +kernel
theorem dX4_isFull_1 : decode cX4_isFull 1 = .ok (.getfield 18, 3) := by decide +kernel
theorem dX4_isFull_4 : decode cX4_isFull 4 = .ok (.aload_n 0, 1) := by decide +kernel
theorem dX4_isFull_5 : decode cX4_isFull 5 = .ok (.getfield 11, 3) := by decide +kernel
theorem dX4_isFull_8 : decode cX4_isFull 8 = .ok (.arraylength, 1) := by decide +kernel
theorem dX4_isFull_9 : decode cX4_isFull 9 = .ok (.if_icmp .lt 7, 3) := by decide +kernel
theorem dX4_isFull_12 : decode cX4_isFull 12 = .ok (.iconst 1, 1) := by decide +kernel
theorem dX4_isFull_13 : decode cX4_isFull 13 = .ok (.goto 4, 3) := by decide +kernel
theorem dX4_isFull_16 : decode cX4_isFull 16 = .ok (.iconst 0, 1) := by decide +kernel
theorem dX4_isFull_17 : decode cX4_isFull 17 = .ok (.ireturn, 1) := by decide +kernel
theorem dX4_entryAt_0 : decode cX4_entryAt 0 = .ok (.iload_n 1, 1) := by decide +kernel
theorem dX4_entryAt_1 : decode cX4_entryAt 1 = .ok (.ifCond .lt 29, 3) := by decide +kernel
theorem dX4_entryAt_4 : decode cX4_entryAt 4 = .ok (.iload_n 1, 1) := by decide +kernel
theorem dX4_entryAt_5 : decode cX4_entryAt 5 = .ok (.aload_n 0, 1) := by decide +kernel
theorem dX4_entryAt_6 : decode cX4_entryAt 6 = .ok (.getfield 18, 3) := by decide +kernel
theorem dX4_entryAt_9 : decode cX4_entryAt 9 = .ok (.if_icmp .ge 21, 3) := by decide +kernel
theorem dX4_entryAt_12 : decode cX4_entryAt 12 = .ok (.iload_n 1, 1) := by decide +kernel
theorem dX4_entryAt_13 : decode cX4_entryAt 13 = .ok (.aload_n 0, 1) := by decide +kernel
theorem dX4_entryAt_14 : decode cX4_entryAt 14 = .ok (.getfield 11, 3) := by decide +kernel
theorem dX4_entryAt_17 : decode cX4_entryAt 17 = .ok (.arraylength, 1) := by decide +kernel
theorem dX4_entryAt_18 : decode cX4_entryAt 18 = .ok (.if_icmp .ge 12, 3) := by decide +kernel
theorem dX4_entryAt_21 : decode cX4_entryAt 21 = .ok (.aload_n 0, 1) := by decide +kernel
theorem dX4_entryAt_22 : decode cX4_entryAt 22 = .ok (.getfield 11, 3) := by decide +kernel
theorem dX4_entryAt_25 : decode cX4_entryAt 25 = .ok (.iload_n 1, 1) := by decide +kernel
theorem dX4_entryAt_26 : decode cX4_entryAt 26 = .ok (.aaload, 1) := by decide +kernel
theorem dX4_entryAt_27 : decode cX4_entryAt 27 = .ok (.goto 4, 3) := by decide +kernel
theorem dX4_entryAt_30 : decode cX4_entryAt 30 = .ok (.aconst_null, 1) := by decide +kernel
theorem dX4_entryAt_31 : decode cX4_entryAt 31 = .ok (.areturn, 1) := by decide +kernel
set_option maxRecDepth 20000 in
theorem ggX4_insert_X1_copyFrom : GoodIn wsX4_insert wsX1_copyFrom := goodIn_r _ [8, 9, 10, 11, 12, 13, 16, 17, 18, 19, 20] (by decide +kernel) (by decide +kernel)
set_option maxRecDepth 20000 in
theorem gX4_insert_X1_copyFrom : GoodIn wsX4_insert (wsV RX4 22 RX1 yX1_copyFrom wsX1_copyFrom) := goodIn_app (goodIn_of _ (by decide +kernel)) ggX4_insert_X1_copyFrom
theorem dX4_insert_0 : decode cX4_insert 0 = .ok (.aload_n 0, 1) := by decide +kernel
theorem dX4_insert_1 : decode cX4_insert 1 = .ok (.getfield 18, 3) := by decide +kernel
theorem dX4_insert_4 : decode cX4_insert 4 = .ok (.ifCond .lt 15, 3) := by decide +kernel
theorem dX4_insert_7 : decode cX4_insert 7 = .ok (.aload_n 0, 1) := by decide +kernel
theorem dX4_insert_8 : decode cX4_insert 8 = .ok (.getfield 18, 3) := by decide +kernel
theorem dX4_insert_11 : decode cX4_insert 11 = .ok (.aload_n 0, 1) := by decide +kernel
theorem dX4_insert_12 : decode cX4_insert 12 = .ok (.getfield 11, 3) := by decide +kernel
theorem dX4_insert_15 : decode cX4_insert 15 = .ok (.arraylength, 1) := by decide +kernel
theorem dX4_insert_16 : decode cX4_insert 16 = .ok (.if_icmp .lt 4, 3) := by decide +kernel
theorem dX4_insert_19 : decode cX4_insert 19 = .ok (.return_, 1) := by decide +kernel
theorem dX4_insert_20 : decode cX4_insert 20 = .ok (.aload_n 0, 1) := by decide +kernel
theorem dX4_insert_21 : decode cX4_insert 21 = .ok (.getfield 11, 3) := by decide +kernel
theorem dX4_insert_24 : decode cX4_insert 24 = .ok (.aload_n 0, 1) := by decide +kernel
theorem dX4_insert_25 : decode cX4_insert 25 = .ok (.getfield 18, 3) := by decide +kernel
theorem dX4_insert_28 : decode cX4_insert 28 = .ok (.aaload, 1) := by decide +kernel
theorem dX4_insert_29 : decode cX4_insert 29 = .ok (.astore_n 2, 1) := by decide +kernel
theorem dX4_insert_30 : decode cX4_insert 30 = .ok (.aload_n 2, 1) := by decide +kernel
theorem dX4_insert_31 : decode cX4_insert 31 = .ok (.aload_n 1, 1) := by decide +kernel
theorem dX4_insert_32 : decode cX4_insert 32 = .ok (.invokevirtual 22, 3) := by decide +kernel
theorem dX4_insert_35 : decode cX4_insert 35 = .ok (.aload_n 0, 1) := by decide +kernel
theorem dX4_insert_36 : decode cX4_insert 36 = .ok (.getfield 18, 3) := by decide +kernel
theorem dX4_insert_39 : decode cX4_insert 39 = .ok (.istore_n 3, 1) := by decide +kernel
theorem dX4_insert_40 : decode cX4_insert 40 = .ok (.iload_n 3, 1) := by decide +kernel
theorem dX4_insert_41 : decode cX4_insert 41 = .ok (.ifCond .le 41, 3) := by decide +kernel
theorem dX4_insert_44 : decode cX4_insert 44 = .ok (.aload_n 0, 1) := by decide +kernel
theorem dX4_insert_45 : decode cX4_insert 45 = .ok (.getfield 11, 3) := by decide +kernel
theorem dX4_insert_48 : decode cX4_insert 48 = .ok (.iload_n 3, 1) := by decide +kernel
theorem dX4_insert_49 : decode cX4_insert 49 = .ok (.iconst 1, 1) := by decide +kernel
theorem dX4_insert_50 : decode cX4_insert 50 = .ok (.isub, 1) := by decide +kernel
theorem dX4_insert_51 : decode cX4_insert 51 = .ok (.aaload, 1) := by decide +kernel
theorem dX4_insert_52 : decode cX4_insert 52 = .ok (.getfield 26, 3) := by decide +kernel
theorem dX4_insert_55 : decode cX4_insert 55 = .ok (.aload_n 2, 1) := by decide +kernel
theorem dX4_insert_56 : decode cX4_insert 56 = .ok (.getfield 26, 3) := by decide +kernel
theorem dX4_insert_59 : decode cX4_insert 59 = .ok (.if_icmp .le 23, 3) := by decide +kernel
theorem dX4_insert_62 : decode cX4_insert 62 = .ok (.aload_n 0, 1) := by decide +kernel
theorem dX4_insert_63 : decode cX4_insert 63 = .ok (.getfield 11, 3) := by decide +kernel
theorem dX4_insert_66 : decode cX4_insert 66 = .ok (.iload_n 3, 1) := by decide +kernel
theorem dX4_insert_67 : decode cX4_insert 67 = .ok (.aload_n 0, 1) := by decide +kernel
theorem dX4_insert_68 : decode cX4_insert 68 = .ok (.getfield 11, 3) := by decide +kernel
theorem dX4_insert_71 : decode cX4_insert 71 = .ok (.iload_n 3, 1) := by decide +kernel
theorem dX4_insert_72 : decode cX4_insert 72 = .ok (.iconst 1, 1) := by decide +kernel
theorem dX4_insert_73 : decode cX4_insert 73 = .ok (.isub, 1) := by decide +kernel
theorem dX4_insert_74 : decode cX4_insert 74 = .ok (.aaload, 1) := by decide +kernel
theorem dX4_insert_75 : decode cX4_insert 75 = .ok (.aastore, 1) := by decide +kernel
theorem dX4_insert_76 : decode cX4_insert 76 = .ok (.iinc 3 (-1), 3) := by decide +kernel
theorem dX4_insert_79 : decode cX4_insert 79 = .ok (.goto (-39), 3) := by decide +kernel
theorem dX4_insert_82 : decode cX4_insert 82 = .ok (.aload_n 0, 1) := by decide +kernel
theorem dX4_insert_83 : decode cX4_insert 83 = .ok (.getfield 11, 3) := by decide +kernel
theorem dX4_insert_86 : decode cX4_insert 86 = .ok (.iload_n 3, 1) := by decide +kernel
theorem dX4_insert_87 : decode cX4_insert 87 = .ok (.aload_n 2, 1) := by decide +kernel
theorem dX4_insert_88 : decode cX4_insert 88 = .ok (.aastore, 1) := by decide +kernel
theorem dX4_insert_89 : decode cX4_insert 89 = .ok (.aload_n 0, 1) := by decide +kernel
theorem dX4_insert_90 : decode cX4_insert 90 = .ok (.dup, 1) := by decide +kernel
theorem dX4_insert_91 : decode cX4_insert 91 = .ok (.getfield 18, 3) := by decide +kernel
theorem dX4_insert_94 : decode cX4_insert 94 = .ok (.iconst 1, 1) := by decide +kernel
theorem dX4_insert_95 : decode cX4_insert 95 = .ok (.iadd, 1) := by decide +kernel
theorem dX4_insert_96 : decode cX4_insert 96 = .ok (.putfield 18, 3) := by decide +kernel
theorem dX4_insert_99 : decode cX4_insert 99 = .ok (.return_, 1) := by decide +kernel
set_option maxRecDepth 20000 in
theorem ggX4_drop_X4_entryAt : GoodIn wsX4_drop wsX4_entryAt := goodIn_r _ [7, 2, 1, 8, 9] (by decide +kernel) (by decide +kernel)
set_option maxRecDepth 20000 in
theorem gX4_drop_X4_entryAt : GoodIn wsX4_drop (wsV RX4 29 RX4 yX4_entryAt wsX4_entryAt) := goodIn_app (goodIn_of _ (by decide +kernel)) ggX4_drop_X4_entryAt
theorem dX4_drop_0 : decode cX4_drop 0 = .ok (.aload_n 0, 1) := by decide +kernel
theorem dX4_drop_1 : decode cX4_drop 1 = .ok (.iload_n 1, 1) := by decide +kernel
theorem dX4_drop_2 : decode cX4_drop 2 = .ok (.invokevirtual 29, 3) := by decide +kernel
theorem dX4_drop_5 : decode cX4_drop 5 = .ok (.ifnonnull 4, 3) := by decide +kernel
theorem dX4_drop_8 : decode cX4_drop 8 = .ok (.return_, 1) := by decide +kernel
theorem dX4_drop_9 : decode cX4_drop 9 = .ok (.aload_n 0, 1) := by decide +kernel
theorem dX4_drop_10 : decode cX4_drop 10 = .ok (.getfield 11, 3) := by decide +kernel
theorem dX4_drop_13 : decode cX4_drop 13 = .ok (.iload_n 1, 1) := by decide +kernel
theorem dX4_drop_14 : decode cX4_drop 14 = .ok (.aaload, 1) := by decide +kernel
theorem dX4_drop_15 : decode cX4_drop 15 = .ok (.astore_n 2, 1) := by decide +kernel
theorem dX4_drop_16 : decode cX4_drop 16 = .ok (.iload_n 1, 1) := by decide +kernel
theorem dX4_drop_17 : decode cX4_drop 17 = .ok (.istore_n 3, 1) := by decide +kernel
theorem dX4_drop_18 : decode cX4_drop 18 = .ok (.iload_n 3, 1) := by decide +kernel
theorem dX4_drop_19 : decode cX4_drop 19 = .ok (.iconst 1, 1) := by decide +kernel
theorem dX4_drop_20 : decode cX4_drop 20 = .ok (.iadd, 1) := by decide +kernel
theorem dX4_drop_21 : decode cX4_drop 21 = .ok (.aload_n 0, 1) := by decide +kernel
theorem dX4_drop_22 : decode cX4_drop 22 = .ok (.getfield 18, 3) := by decide +kernel
theorem dX4_drop_25 : decode cX4_drop 25 = .ok (.if_icmp .ge 34, 3) := by decide +kernel
theorem dX4_drop_28 : decode cX4_drop 28 = .ok (.iload_n 3, 1) := by decide +kernel
theorem dX4_drop_29 : decode cX4_drop 29 = .ok (.iconst 1, 1) := by decide +kernel
theorem dX4_drop_30 : decode cX4_drop 30 = .ok (.iadd, 1) := by decide +kernel
theorem dX4_drop_31 : decode cX4_drop 31 = .ok (.aload_n 0, 1) := by decide +kernel
theorem dX4_drop_32 : decode cX4_drop 32 = .ok (.getfield 11, 3) := by decide +kernel
theorem dX4_drop_35 : decode cX4_drop 35 = .ok (.arraylength, 1) := by decide +kernel
theorem dX4_drop_36 : decode cX4_drop 36 = .ok (.if_icmp .ge 23, 3) := by decide +kernel
theorem dX4_drop_39 : decode cX4_drop 39 = .ok (.aload_n 0, 1) := by decide +kernel
theorem dX4_drop_40 : decode cX4_drop 40 = .ok (.getfield 11, 3) := by decide +kernel
theorem dX4_drop_43 : decode cX4_drop 43 = .ok (.iload_n 3, 1) := by decide +kernel
theorem dX4_drop_44 : decode cX4_drop 44 = .ok (.aload_n 0, 1) := by decide +kernel
theorem dX4_drop_45 : decode cX4_drop 45 = .ok (.getfield 11, 3) := by decide +kernel
theorem dX4_drop_48 : decode cX4_drop 48 = .ok (.iload_n 3, 1) := by decide +kernel
theorem dX4_drop_49 : decode cX4_drop 49 = .ok (.iconst 1, 1) := by decide +kernel
theorem dX4_drop_50 : decode cX4_drop 50 = .ok (.iadd, 1) := by decide +kernel
theorem dX4_drop_51 : decode cX4_drop 51 = .ok (.aaload, 1) := by decide +kernel
theorem dX4_drop_52 : decode cX4_drop 52 = .ok (.aastore, 1) := by decide +kernel
theorem dX4_drop_53 : decode cX4_drop 53 = .ok (.iinc 3 1, 3) := by decide +kernel
theorem dX4_drop_56 : decode cX4_drop 56 = .ok (.goto (-38), 3) := by decide +kernel
theorem dX4_drop_59 : decode cX4_drop 59 = .ok (.aload_n 0, 1) := by decide +kernel
theorem dX4_drop_60 : decode cX4_drop 60 = .ok (.dup, 1) := by decide +kernel
theorem dX4_drop_61 : decode cX4_drop 61 = .ok (.getfield 18, 3) := by decide +kernel
theorem dX4_drop_64 : decode cX4_drop 64 = .ok (.iconst 1, 1) := by decide +kernel
theorem dX4_drop_65 : decode cX4_drop 65 = .ok (.isub, 1) := by decide +kernel
theorem dX4_drop_66 : decode cX4_drop 66 = .ok (.putfield 18, 3) := by decide +kernel
theorem dX4_drop_69 : decode cX4_drop 69 = .ok (.aload_n 0, 1) := by decide +kernel
theorem dX4_drop_70 : decode cX4_drop 70 = .ok (.getfield 18, 3) := by decide +kernel
theorem dX4_drop_73 : decode cX4_drop 73 = .ok (.ifCond .lt 25, 3) := by decide +kernel
theorem dX4_drop_76 : decode cX4_drop 76 = .ok (.aload_n 0, 1) := by decide +kernel
theorem dX4_drop_77 : decode cX4_drop 77 = .ok (.getfield 18, 3) := by decide +kernel
theorem dX4_drop_80 : decode cX4_drop 80 = .ok (.aload_n 0, 1) := by decide +kernel
theorem dX4_drop_81 : decode cX4_drop 81 = .ok (.getfield 11, 3) := by decide +kernel
theorem dX4_drop_84 : decode cX4_drop 84 = .ok (.arraylength, 1) := by decide +kernel
theorem dX4_drop_85 : decode cX4_drop 85 = .ok (.if_icmp .ge 13, 3) := by decide +kernel
theorem dX4_drop_88 : decode cX4_drop 88 = .ok (.aload_n 0, 1) := by decide +kernel
theorem dX4_drop_89 : decode cX4_drop 89 = .ok (.getfield 11, 3) := by decide +kernel
theorem dX4_drop_92 : decode cX4_drop 92 = .ok (.aload_n 0, 1) := by decide +kernel
theorem dX4_drop_93 : decode cX4_drop 93 = .ok (.getfield 18, 3) := by decide +kernel
theorem dX4_drop_96 : decode cX4_drop 96 = .ok (.aload_n 2, 1) := by decide +kernel
theorem dX4_drop_97 : decode cX4_drop 97 = .ok (.aastore, 1) := by decide +kernel
theorem dX4_drop_98 : decode cX4_drop 98 = .ok (.return_, 1) := by decide +kernel
set_option maxRecDepth 20000 in
theorem ggX4_dropEnded_X4_entryAt : GoodIn wsX4_dropEnded wsX4_entryAt := goodIn_r _ [6, 1, 7, 20, 21] (by decide +kernel) (by decide +kernel)
set_option maxRecDepth 20000 in
theorem gX4_dropEnded_X4_entryAt : GoodIn wsX4_dropEnded (wsV RX4 29 RX4 yX4_entryAt wsX4_entryAt) := goodIn_app (goodIn_of _ (by decide +kernel)) ggX4_dropEnded_X4_entryAt
set_option maxRecDepth 20000 in
theorem ggX4_dropEnded_X1_endsWith : GoodIn wsX4_dropEnded wsX1_endsWith := goodIn_r _ [12, 13, 14, 15, 22, 23, 24, 25, 26] (by decide +kernel) (by decide +kernel)
set_option maxRecDepth 20000 in
theorem gX4_dropEnded_X1_endsWith : GoodIn wsX4_dropEnded (wsV RX4 33 RX1 yX1_endsWith wsX1_endsWith) := goodIn_app (goodIn_of _ (by decide +kernel)) ggX4_dropEnded_X1_endsWith
set_option maxRecDepth 20000 in
theorem ggX4_dropEnded_X4_drop : GoodIn wsX4_dropEnded wsX4_drop := goodIn_r _ [19, 7, 1, 2, 3, 4, 5, 6, 20, 21] (by decide +kernel) (by decide +kernel)
set_option maxRecDepth 20000 in
theorem gX4_dropEnded_X4_drop : GoodIn wsX4_dropEnded (wsV RX4 37 RX4 yX4_drop wsX4_drop) := goodIn_app (goodIn_of _ (by decide +kernel)) ggX4_dropEnded_X4_drop
theorem dX4_dropEnded_0 : decode cX4_dropEnded 0 = .ok (.aload_n 0, 1) := by decide +kernel
theorem dX4_dropEnded_1 : decode cX4_dropEnded 1 = .ok (.getfield 18, 3) := by decide +kernel
theorem dX4_dropEnded_4 : decode cX4_dropEnded 4 = .ok (.iconst 1, 1) := by decide +kernel
theorem dX4_dropEnded_5 : decode cX4_dropEnded 5 = .ok (.isub, 1) := by decide +kernel
theorem dX4_dropEnded_6 : decode cX4_dropEnded 6 = .ok (.istore_n 2, 1) := by decide +kernel
theorem dX4_dropEnded_7 : decode cX4_dropEnded 7 = .ok (.iload_n 2, 1) := by decide +kernel
theorem dX4_dropEnded_8 : decode cX4_dropEnded 8 = .ok (.ifCond .lt 32, 3) := by decide +kernel
theorem dX4_dropEnded_11 : decode cX4_dropEnded 11 = .ok (.aload_n 0, 1) := by decide +kernel
theorem dX4_dropEnded_12 : decode cX4_dropEnded 12 = .ok (.iload_n 2, 1) := by decide +kernel
theorem dX4_dropEnded_13 : decode cX4_dropEnded 13 = .ok (.invokevirtual 29, 3) := by decide +kernel
theorem dX4_dropEnded_16 : decode cX4_dropEnded 16 = .ok (.astore_n 3, 1) := by decide +kernel
theorem dX4_dropEnded_17 : decode cX4_dropEnded 17 = .ok (.aload_n 3, 1) := by decide +kernel
theorem dX4_dropEnded_18 : decode cX4_dropEnded 18 = .ok (.ifnull 16, 3) := by decide +kernel
theorem dX4_dropEnded_21 : decode cX4_dropEnded 21 = .ok (.aload_n 3, 1) := by decide +kernel
theorem dX4_dropEnded_22 : decode cX4_dropEnded 22 = .ok (.iload_n 1, 1) := by decide +kernel
theorem dX4_dropEnded_23 : decode cX4_dropEnded 23 = .ok (.invokevirtual 33, 3) := by decide +kernel
theorem dX4_dropEnded_26 : decode cX4_dropEnded 26 = .ok (.ifCond .eq 8, 3) := by decide +kernel
theorem dX4_dropEnded_29 : decode cX4_dropEnded 29 = .ok (.aload_n 0, 1) := by decide +kernel
theorem dX4_dropEnded_30 : decode cX4_dropEnded 30 = .ok (.iload_n 2, 1) := by decide +kernel
theorem dX4_dropEnded_31 : decode cX4_dropEnded 31 = .ok (.invokevirtual 37, 3) := by decide +kernel
theorem dX4_dropEnded_34 : decode cX4_dropEnded 34 = .ok (.iinc 2 (-1), 3) := by decide +kernel
theorem dX4_dropEnded_37 : decode cX4_dropEnded 37 = .ok (.goto (-30), 3) := by decide +kernel
theorem dX4_dropEnded_40 : decode cX4_dropEnded 40 = .ok (.return_, 1) := by decide +kernel
set_option maxRecDepth 20000 in
theorem ggX4_soundsHeard_X1_isHeardIn : GoodIn wsX4_soundsHeard wsX1_isHeardIn := goodIn_r _ [8, 9, 10, 11, 14, 15, 16, 17, 18] (by decide +kernel) (by decide +kernel)
set_option maxRecDepth 20000 in
theorem gX4_soundsHeard_X1_isHeardIn : GoodIn wsX4_soundsHeard (wsV RX4 48 RX1 yX1_isHeardIn wsX1_isHeardIn) := goodIn_app (goodIn_of _ (by decide +kernel)) ggX4_soundsHeard_X1_isHeardIn
theorem dX4_soundsHeard_0 : decode cX4_soundsHeard 0 = .ok (.iconst 0, 1) := by decide +kernel
theorem dX4_soundsHeard_1 : decode cX4_soundsHeard 1 = .ok (.istore_n 3, 1) := by decide +kernel
theorem dX4_soundsHeard_2 : decode cX4_soundsHeard 2 = .ok (.iconst 0, 1) := by decide +kernel
theorem dX4_soundsHeard_3 : decode cX4_soundsHeard 3 = .ok (.istore 4, 2) := by decide +kernel
theorem dX4_soundsHeard_5 : decode cX4_soundsHeard 5 = .ok (.iload 4, 2) := by decide +kernel
theorem dX4_soundsHeard_7 : decode cX4_soundsHeard 7 = .ok (.aload_n 0, 1) := by decide +kernel
theorem dX4_soundsHeard_8 : decode cX4_soundsHeard 8 = .ok (.getfield 18, 3) := by decide +kernel
theorem dX4_soundsHeard_11 : decode cX4_soundsHeard 11 = .ok (.if_icmp .ge 50, 3) := by decide +kernel
theorem dX4_soundsHeard_14 : decode cX4_soundsHeard 14 = .ok (.iload 4, 2) := by decide +kernel
theorem dX4_soundsHeard_16 : decode cX4_soundsHeard 16 = .ok (.aload_n 0, 1) := by decide +kernel
theorem dX4_soundsHeard_17 : decode cX4_soundsHeard 17 = .ok (.getfield 11, 3) := by decide +kernel
theorem dX4_soundsHeard_20 : decode cX4_soundsHeard 20 = .ok (.arraylength, 1) := by decide +kernel
theorem dX4_soundsHeard_21 : decode cX4_soundsHeard 21 = .ok (.if_icmp .ge 40, 3) := by decide +kernel
theorem dX4_soundsHeard_24 : decode cX4_soundsHeard 24 = .ok (.aload_n 0, 1) := by decide +kernel
theorem dX4_soundsHeard_25 : decode cX4_soundsHeard 25 = .ok (.getfield 11, 3) := by decide +kernel
theorem dX4_soundsHeard_28 : decode cX4_soundsHeard 28 = .ok (.iload 4, 2) := by decide +kernel
theorem dX4_soundsHeard_30 : decode cX4_soundsHeard 30 = .ok (.aaload, 1) := by decide +kernel
theorem dX4_soundsHeard_31 : decode cX4_soundsHeard 31 = .ok (.getfield 45, 3) := by decide +kernel
theorem dX4_soundsHeard_34 : decode cX4_soundsHeard 34 = .ok (.iload_n 1, 1) := by decide +kernel
theorem dX4_soundsHeard_35 : decode cX4_soundsHeard 35 = .ok (.if_icmp .ne 20, 3) := by decide +kernel
theorem dX4_soundsHeard_38 : decode cX4_soundsHeard 38 = .ok (.aload_n 0, 1) := by decide +kernel
theorem dX4_soundsHeard_39 : decode cX4_soundsHeard 39 = .ok (.getfield 11, 3) := by decide +kernel
theorem dX4_soundsHeard_42 : decode cX4_soundsHeard 42 = .ok (.iload 4, 2) := by decide +kernel
theorem dX4_soundsHeard_44 : decode cX4_soundsHeard 44 = .ok (.aaload, 1) := by decide +kernel
theorem dX4_soundsHeard_45 : decode cX4_soundsHeard 45 = .ok (.iload_n 2, 1) := by decide +kernel
theorem dX4_soundsHeard_46 : decode cX4_soundsHeard 46 = .ok (.invokevirtual 48, 3) := by decide +kernel
theorem dX4_soundsHeard_49 : decode cX4_soundsHeard 49 = .ok (.ifCond .eq 6, 3) := by decide +kernel
theorem dX4_soundsHeard_52 : decode cX4_soundsHeard 52 = .ok (.iinc 3 1, 3) := by decide +kernel
theorem dX4_soundsHeard_55 : decode cX4_soundsHeard 55 = .ok (.iinc 4 1, 3) := by decide +kernel
theorem dX4_soundsHeard_58 : decode cX4_soundsHeard 58 = .ok (.goto (-53), 3) := by decide +kernel
theorem dX4_soundsHeard_61 : decode cX4_soundsHeard 61 = .ok (.iload_n 3, 1) := by decide +kernel
theorem dX4_soundsHeard_62 : decode cX4_soundsHeard 62 = .ok (.ireturn, 1) := by decide +kernel
theorem dX5_init_0 : decode cX5_init 0 = .ok (.aload_n 0, 1) := by decide +kernel
theorem dX5_init_1 : decode cX5_init 1 = .ok (.invokespecial 3, 3) := by decide +kernel
theorem dX5_init_4 : decode cX5_init 4 = .ok (.aload_n 0, 1) := by decide +kernel
theorem dX5_init_5 : decode cX5_init 5 = .ok (.bipush 32, 2) := by decide +kernel
theorem dX5_init_7 : decode cX5_init 7 = .ok (.newarray .int, 2) := by decide +kernel
theorem dX5_init_9 : decode cX5_init 9 = .ok (.putfield 9, 3) := by decide +kernel
theorem dX5_init_12 : decode cX5_init 12 = .ok (.return_, 1) := by decide +kernel
theorem dX5_begin_0 : decode cX5_begin 0 = .ok (.aload_n 0, 1) := by decide +kernel
theorem dX5_begin_1 : decode cX5_begin 1 = .ok (.iload_n 1, 1) := by decide +kernel
theorem dX5_begin_2 : decode cX5_begin 2 = .ok (.putfield 15, 3) := by decide +kernel
theorem dX5_begin_5 : decode cX5_begin 5 = .ok (.aload_n 0, 1) := by decide +kernel
theorem dX5_begin_6 : decode cX5_begin 6 = .ok (.iload_n 2, 1) := by decide +kernel
theorem dX5_begin_7 : decode cX5_begin 7 = .ok (.putfield 19, 3) := by decide +kernel
theorem dX5_begin_10 : decode cX5_begin 10 = .ok (.aload_n 0, 1) := by decide +kernel
theorem dX5_begin_11 : decode cX5_begin 11 = .ok (.iload_n 3, 1) := by decide +kernel
theorem dX5_begin_12 : decode cX5_begin 12 = .ok (.putfield 22, 3) := by decide +kernel
theorem dX5_begin_15 : decode cX5_begin 15 = .ok (.return_, 1) := by decide +kernel
theorem dX5_copyFrom_0 : decode cX5_copyFrom 0 = .ok (.aload_n 0, 1) := by decide +kernel
theorem dX5_copyFrom_1 : decode cX5_copyFrom 1 = .ok (.aload_n 1, 1) := by decide +kernel
theorem dX5_copyFrom_2 : decode cX5_copyFrom 2 = .ok (.getfield 15, 3) := by decide +kernel
theorem dX5_copyFrom_5 : decode cX5_copyFrom 5 = .ok (.putfield 15, 3) := by decide +kernel
theorem dX5_copyFrom_8 : decode cX5_copyFrom 8 = .ok (.aload_n 0, 1) := by decide +kernel
theorem dX5_copyFrom_9 : decode cX5_copyFrom 9 = .ok (.aload_n 1, 1) := by decide +kernel
theorem dX5_copyFrom_10 : decode cX5_copyFrom 10 = .ok (.getfield 19, 3) := by decide +kernel
theorem dX5_copyFrom_13 : decode cX5_copyFrom 13 = .ok (.putfield 19, 3) := by decide +kernel
theorem dX5_copyFrom_16 : decode cX5_copyFrom 16 = .ok (.aload_n 0, 1) := by decide +kernel
theorem dX5_copyFrom_17 : decode cX5_copyFrom 17 = .ok (.aload_n 1, 1) := by decide +kernel
theorem dX5_copyFrom_18 : decode cX5_copyFrom 18 = .ok (.getfield 25, 3) := by decide +kernel
theorem dX5_copyFrom_21 : decode cX5_copyFrom 21 = .ok (.putfield 25, 3) := by decide +kernel
theorem dX5_copyFrom_24 : decode cX5_copyFrom 24 = .ok (.aload_n 0, 1) := by decide +kernel
theorem dX5_copyFrom_25 : decode cX5_copyFrom 25 = .ok (.aload_n 1, 1) := by decide +kernel
theorem dX5_copyFrom_26 : decode cX5_copyFrom 26 = .ok (.getfield 28, 3) := by decide +kernel
theorem dX5_copyFrom_29 : decode cX5_copyFrom 29 = .ok (.putfield 28, 3) := by decide +kernel
theorem dX5_copyFrom_32 : decode cX5_copyFrom 32 = .ok (.aload_n 0, 1) := by decide +kernel
theorem dX5_copyFrom_33 : decode cX5_copyFrom 33 = .ok (.aload_n 1, 1) := by decide +kernel
theorem dX5_copyFrom_34 : decode cX5_copyFrom 34 = .ok (.getfield 31, 3) := by decide +kernel
theorem dX5_copyFrom_37 : decode cX5_copyFrom 37 = .ok (.putfield 31, 3) := by decide +kernel
theorem dX5_copyFrom_40 : decode cX5_copyFrom 40 = .ok (.aload_n 0, 1) := by decide +kernel
theorem dX5_copyFrom_41 : decode cX5_copyFrom 41 = .ok (.aload_n 1, 1) := by decide +kernel
theorem dX5_copyFrom_42 : decode cX5_copyFrom 42 = .ok (.getfield 22, 3) := by decide +kernel
theorem dX5_copyFrom_45 : decode cX5_copyFrom 45 = .ok (.putfield 22, 3) := by decide +kernel
theorem dX5_copyFrom_48 : decode cX5_copyFrom 48 = .ok (.aload_n 1, 1) := by decide +kernel
theorem dX5_copyFrom_49 : decode cX5_copyFrom 49 = .ok (.getfield 9, 3) := by decide +kernel
theorem dX5_copyFrom_52 : decode cX5_copyFrom 52 = .ok (.iconst 0, 1) := by decide +kernel
theorem dX5_copyFrom_53 : decode cX5_copyFrom 53 = .ok (.aload_n 0, 1) := by decide +kernel
theorem dX5_copyFrom_54 : decode cX5_copyFrom 54 = .ok (.getfield 9, 3) := by decide +kernel
theorem dX5_copyFrom_57 : decode cX5_copyFrom 57 = .ok (.iconst 0, 1) := by decide +kernel
theorem dX5_copyFrom_58 : decode cX5_copyFrom 58 = .ok (.bipush 32, 2) := by decide +kernel
theorem dX5_copyFrom_60 : decode cX5_copyFrom 60 = .ok (.invokestatic 34, 3) := by decide +kernel
theorem dX5_copyFrom_63 : decode cX5_copyFrom 63 = .ok (.return_, 1) := by decide +kernel
theorem dX5_density_0 : decode cX5_density 0 = .ok (.aload_n 0, 1) := by decide +kernel
theorem dX5_density_1 : decode cX5_density 1 = .ok (.getfield 15, 3) := by decide +kernel
theorem dX5_density_4 : decode cX5_density 4 = .ok (.ifCond .le 15, 3) := by decide +kernel
theorem dX5_density_7 : decode cX5_density 7 = .ok (.aload_n 0, 1) := by decide +kernel
theorem dX5_density_8 : decode cX5_density 8 = .ok (.getfield 25, 3) := by decide +kernel
theorem dX5_density_11 : decode cX5_density 11 = .ok (.aload_n 0, 1) := by decide +kernel
theorem dX5_density_12 : decode cX5_density 12 = .ok (.getfield 15, 3) := by decide +kernel
theorem dX5_density_15 : decode cX5_density 15 = .ok (.idiv, 1) := by decide +kernel
theorem dX5_density_16 : decode cX5_density 16 = .ok (.goto 4, 3) := by decide +kernel
theorem dX5_density_19 : decode cX5_density 19 = .ok (.iconst 0, 1) := by decide +kernel
theorem dX5_density_20 : decode cX5_density 20 = .ok (.ireturn, 1) := by decide +kernel
set_option maxRecDepth 20000 in
theorem ggX5_keepEnergy_J9_floorMod_7cf53 : GoodIn wsX5_keepEnergy wsJ9_floorMod_7cf53 := goodIn_r _ [6] (by decide +kernel) (by decide +kernel)
set_option maxRecDepth 20000 in
theorem gX5_keepEnergy_J9_floorMod_7cf53 : GoodIn wsX5_keepEnergy (va_wsS RX5 40 yJ9_floorMod_7cf53 wsJ9_floorMod_7cf53) := goodIn_app (goodIn_of _ (by decide +kernel)) ggX5_keepEnergy_J9_floorMod_7cf53
theorem dX5_keepEnergy_0 : decode cX5_keepEnergy 0 = .ok (.aload_n 0, 1) := by decide +kernel
theorem dX5_keepEnergy_1 : decode cX5_keepEnergy 1 = .ok (.getfield 9, 3) := by decide +kernel
theorem dX5_keepEnergy_4 : decode cX5_keepEnergy 4 = .ok (.iload_n 1, 1) := by decide +kernel
theorem dX5_keepEnergy_5 : decode cX5_keepEnergy 5 = .ok (.bipush 32, 2) := by decide +kernel
theorem dX5_keepEnergy_7 : decode cX5_keepEnergy 7 = .ok (.invokestatic 40, 3) := by decide +kernel
theorem dX5_keepEnergy_10 : decode cX5_keepEnergy 10 = .ok (.aload_n 0, 1) := by decide +kernel
theorem dX5_keepEnergy_11 : decode cX5_keepEnergy 11 = .ok (.getfield 25, 3) := by decide +kernel
theorem dX5_keepEnergy_14 : decode cX5_keepEnergy 14 = .ok (.iastore, 1) := by decide +kernel
theorem dX5_keepEnergy_15 : decode cX5_keepEnergy 15 = .ok (.return_, 1) := by decide +kernel
theorem dX5_hear_0 : decode cX5_hear 0 = .ok (.aload_n 0, 1) := by decide +kernel
theorem dX5_hear_1 : decode cX5_hear 1 = .ok (.dup, 1) := by decide +kernel
theorem dX5_hear_2 : decode cX5_hear 2 = .ok (.getfield 25, 3) := by decide +kernel
theorem dX5_hear_5 : decode cX5_hear 5 = .ok (.iload_n 1, 1) := by decide +kernel
theorem dX5_hear_6 : decode cX5_hear 6 = .ok (.iadd, 1) := by decide +kernel
theorem dX5_hear_7 : decode cX5_hear 7 = .ok (.putfield 25, 3) := by decide +kernel
theorem dX5_hear_10 : decode cX5_hear 10 = .ok (.aload_n 0, 1) := by decide +kernel
theorem dX5_hear_11 : decode cX5_hear 11 = .ok (.dup, 1) := by decide +kernel
theorem dX5_hear_12 : decode cX5_hear 12 = .ok (.getfield 31, 3) := by decide +kernel
theorem dX5_hear_15 : decode cX5_hear 15 = .ok (.iload_n 1, 1) := by decide +kernel
theorem dX5_hear_16 : decode cX5_hear 16 = .ok (.iadd, 1) := by decide +kernel
theorem dX5_hear_17 : decode cX5_hear 17 = .ok (.putfield 31, 3) := by decide +kernel
theorem dX5_hear_20 : decode cX5_hear 20 = .ok (.return_, 1) := by decide +kernel
theorem dX5_absorbShare_0 : decode cX5_absorbShare 0 = .ok (.aload_n 0, 1) := by decide +kernel
theorem dX5_absorbShare_1 : decode cX5_absorbShare 1 = .ok (.getfield 25, 3) := by decide +kernel
theorem dX5_absorbShare_4 : decode cX5_absorbShare 4 = .ok (.i2l, 1) := by decide +kernel
theorem dX5_absorbShare_5 : decode cX5_absorbShare 5 = .ok (.aload_n 0, 1) := by decide +kernel
theorem dX5_absorbShare_6 : decode cX5_absorbShare 6 = .ok (.getfield 19, 3) := by decide +kernel
theorem dX5_absorbShare_9 : decode cX5_absorbShare 9 = .ok (.i2l, 1) := by decide +kernel
theorem dX5_absorbShare_10 : decode cX5_absorbShare 10 = .ok (.lmul, 1) := by decide +kernel
theorem dX5_absorbShare_11 : decode cX5_absorbShare 11 = .ok (.ldc2_w 46, 3) := by decide +kernel
theorem dX5_absorbShare_14 : decode cX5_absorbShare 14 = .ok (.ladd, 1) := by decide +kernel
theorem dX5_absorbShare_15 : decode cX5_absorbShare 15 = .ok (.ldc2_w 48, 3) := by decide +kernel
theorem dX5_absorbShare_18 : decode cX5_absorbShare 18 = .ok (.ldiv, 1) := by decide +kernel
theorem dX5_absorbShare_19 : decode cX5_absorbShare 19 = .ok (.l2i, 1) := by decide +kernel
theorem dX5_absorbShare_20 : decode cX5_absorbShare 20 = .ok (.istore_n 1, 1) := by decide +kernel
theorem dX5_absorbShare_21 : decode cX5_absorbShare 21 = .ok (.aload_n 0, 1) := by decide +kernel
theorem dX5_absorbShare_22 : decode cX5_absorbShare 22 = .ok (.dup, 1) := by decide +kernel
theorem dX5_absorbShare_23 : decode cX5_absorbShare 23 = .ok (.getfield 25, 3) := by decide +kernel
theorem dX5_absorbShare_26 : decode cX5_absorbShare 26 = .ok (.iload_n 1, 1) := by decide +kernel
theorem dX5_absorbShare_27 : decode cX5_absorbShare 27 = .ok (.isub, 1) := by decide +kernel
theorem dX5_absorbShare_28 : decode cX5_absorbShare 28 = .ok (.putfield 25, 3) := by decide +kernel
theorem dX5_absorbShare_31 : decode cX5_absorbShare 31 = .ok (.aload_n 0, 1) := by decide +kernel
theorem dX5_absorbShare_32 : decode cX5_absorbShare 32 = .ok (.dup, 1) := by decide +kernel
theorem dX5_absorbShare_33 : decode cX5_absorbShare 33 = .ok (.getfield 28, 3) := by decide +kernel
theorem dX5_absorbShare_36 : decode cX5_absorbShare 36 = .ok (.iload_n 1, 1) := by decide +kernel
theorem dX5_absorbShare_37 : decode cX5_absorbShare 37 = .ok (.iadd, 1) := by decide +kernel
theorem dX5_absorbShare_38 : decode cX5_absorbShare 38 = .ok (.putfield 28, 3) := by decide +kernel
theorem dX5_absorbShare_41 : decode cX5_absorbShare 41 = .ok (.return_, 1) := by decide +kernel
theorem dX5_shareThrough_0 : decode cX5_shareThrough 0 = .ok (.aload_n 0, 1) := by decide +kernel
theorem dX5_shareThrough_1 : decode cX5_shareThrough 1 = .ok (.getfield 15, 3) := by decide +kernel
theorem dX5_shareThrough_4 : decode cX5_shareThrough 4 = .ok (.ifCond .gt 5, 3) := by decide +kernel
theorem dX5_shareThrough_7 : decode cX5_shareThrough 7 = .ok (.iconst 0, 1) := by decide +kernel
theorem dX5_shareThrough_8 : decode cX5_shareThrough 8 = .ok (.ireturn, 1) := by decide +kernel
theorem dX5_shareThrough_9 : decode cX5_shareThrough 9 = .ok (.aload_n 0, 1) := by decide +kernel
theorem dX5_shareThrough_10 : decode cX5_shareThrough 10 = .ok (.getfield 25, 3) := by decide +kernel
theorem dX5_shareThrough_13 : decode cX5_shareThrough 13 = .ok (.i2l, 1) := by decide +kernel
theorem dX5_shareThrough_14 : decode cX5_shareThrough 14 = .ok (.aload_n 1, 1) := by decide +kernel
theorem dX5_shareThrough_15 : decode cX5_shareThrough 15 = .ok (.getfield 50, 3) := by decide +kernel
theorem dX5_shareThrough_18 : decode cX5_shareThrough 18 = .ok (.i2l, 1) := by decide +kernel
theorem dX5_shareThrough_19 : decode cX5_shareThrough 19 = .ok (.lmul, 1) := by decide +kernel
theorem dX5_shareThrough_20 : decode cX5_shareThrough 20 = .ok (.aload_n 1, 1) := by decide +kernel
theorem dX5_shareThrough_21 : decode cX5_shareThrough 21 = .ok (.getfield 55, 3) := by decide +kernel
theorem dX5_shareThrough_24 : decode cX5_shareThrough 24 = .ok (.i2l, 1) := by decide +kernel
theorem dX5_shareThrough_25 : decode cX5_shareThrough 25 = .ok (.lmul, 1) := by decide +kernel
theorem dX5_shareThrough_26 : decode cX5_shareThrough 26 = .ok (.ldc2_w 58, 3) := by decide +kernel
theorem dX5_shareThrough_29 : decode cX5_shareThrough 29 = .ok (.aload_n 0, 1) := by decide +kernel
theorem dX5_shareThrough_30 : decode cX5_shareThrough 30 = .ok (.getfield 15, 3) := by decide +kernel
theorem dX5_shareThrough_33 : decode cX5_shareThrough 33 = .ok (.i2l, 1) := by decide +kernel
theorem dX5_shareThrough_34 : decode cX5_shareThrough 34 = .ok (.lmul, 1) := by decide +kernel
theorem dX5_shareThrough_35 : decode cX5_shareThrough 35 = .ok (.ldiv, 1) := by decide +kernel
theorem dX5_shareThrough_36 : decode cX5_shareThrough 36 = .ok (.l2i, 1) := by decide +kernel
theorem dX5_shareThrough_37 : decode cX5_shareThrough 37 = .ok (.ireturn, 1) := by decide +kernel
set_option maxRecDepth 20000 in
theorem ggX6_init_X1_init : GoodIn wsX6_init wsX1_init := goodIn_r _ [11, 12, 2, 3] (by decide +kernel) (by decide +kernel)
set_option maxRecDepth 20000 in
theorem gX6_init_X1_init_n17 : GoodIn wsX6_init (wsX1_init) := ggX6_init_X1_init
theorem dX6_init_0 : decode cX6_init 0 = .ok (.aload_n 0, 1) := by decide +kernel
theorem dX6_init_1 : decode cX6_init 1 = .ok (.invokespecial 3, 3) := by decide +kernel
theorem dX6_init_4 : decode cX6_init 4 = .ok (.aload_n 0, 1) := by decide +kernel
theorem dX6_init_5 : decode cX6_init 5 = .ok (.bipush 80, 2) := by decide +kernel
theorem dX6_init_7 : decode cX6_init 7 = .ok (.newarray .char, 2) := by decide +kernel
theorem dX6_init_9 : decode cX6_init 9 = .ok (.putfield 9, 3) := by decide +kernel
theorem dX6_init_12 : decode cX6_init 12 = .ok (.aload_n 0, 1) := by decide +kernel
theorem dX6_init_13 : decode cX6_init 13 = .ok (.new 15, 3) := by decide +kernel
theorem dX6_init_16 : decode cX6_init 16 = .ok (.dup, 1) := by decide +kernel
theorem dX6_init_17 : decode cX6_init 17 = .ok (.invokespecial 17, 3) := by decide +kernel
theorem dX6_init_20 : decode cX6_init 20 = .ok (.putfield 18, 3) := by decide +kernel
theorem dX6_init_23 : decode cX6_init 23 = .ok (.return_, 1) := by decide +kernel
set_option maxRecDepth 20000 in
theorem ggX7_init_X3_init : GoodIn wsX7_init wsX3_init := goodIn_r _ [23, 24, 2, 3, 25, 26, 27, 28, 29, 30, 31, 32, 33, 34, 35, 36, 37, 38, 39, 40, 41, 42, 43, 44, 45, 18, 19, 46, 47, 48, 49, 50, 51, 52, 53, 54, 55, 56, 57, 58, 59, 74, 75, 76, 77, 78, 79, 80, 81, 82, 83, 102, 103, 104, 105, 106, 107, 108, 109, 110, 111, 112, 113, 114, 115, 116, 117, 118, 119, 120, 97, 98, 99, 100, 101] (by decide +kernel) (by decide +kernel)
set_option maxRecDepth 20000 in
theorem gX7_init_X3_init : GoodIn wsX7_init (wsX3_init) := ggX7_init_X3_init
set_option maxRecDepth 20000 in
theorem ggX7_init_X2_init : GoodIn wsX7_init wsX2_init := goodIn_r _ [62, 63, 2, 3, 64, 65, 5, 6, 66, 22, 23, 24, 25, 26, 27, 28, 29, 30, 31, 32, 33, 34, 35, 36, 37, 38, 39, 40, 41, 42, 43, 44, 45, 18, 19, 46, 47, 48, 49, 50, 51, 52, 53, 54, 55, 56, 57, 58, 59, 89, 90, 74, 75, 76, 77, 78, 79, 80, 81, 82, 83, 102, 103, 104, 105, 106, 107, 108, 109, 110, 111, 112, 113, 114, 115, 116, 117, 118, 119, 120, 97, 98, 99, 100, 101] (by decide +kernel) (by decide +kernel)
set_option maxRecDepth 20000 in
theorem gX7_init_X2_init : GoodIn wsX7_init (wsX2_init) := ggX7_init_X2_init
set_option maxRecDepth 20000 in
theorem ggX7_init_X6_init : GoodIn wsX7_init wsX6_init := goodIn_r _ [68, 69, 2, 3, 70, 71, 72, 18, 19, 73, 46, 47, 48, 91, 92, 93, 94, 95, 96, 97, 98, 99, 100, 101] (by decide +kernel) (by decide +kernel)
set_option maxRecDepth 20000 in
theorem gX7_init_X6_init_n28 : GoodIn wsX7_init (wsX6_init) := ggX7_init_X6_init
set_option maxRecDepth 20000 in
theorem ggX7_init_X1_init : GoodIn wsX7_init wsX1_init := goodIn_r _ [47, 48, 2, 3] (by decide +kernel) (by decide +kernel)
set_option maxRecDepth 20000 in
theorem gX7_init_X1_init_n35 : GoodIn wsX7_init (wsX1_init) := ggX7_init_X1_init
theorem dX7_init_0 : decode cX7_init 0 = .ok (.aload_n 0, 1) := by decide +kernel
theorem dX7_init_1 : decode cX7_init 1 = .ok (.invokespecial 1, 3) := by decide +kernel
theorem dX7_init_4 : decode cX7_init 4 = .ok (.aload_n 0, 1) := by decide +kernel
theorem dX7_init_5 : decode cX7_init 5 = .ok (.new 7, 3) := by decide +kernel
theorem dX7_init_8 : decode cX7_init 8 = .ok (.dup, 1) := by decide +kernel
theorem dX7_init_9 : decode cX7_init 9 = .ok (.invokespecial 9, 3) := by decide +kernel
theorem dX7_init_12 : decode cX7_init 12 = .ok (.putfield 10, 3) := by decide +kernel
theorem dX7_init_15 : decode cX7_init 15 = .ok (.aload_n 0, 1) := by decide +kernel
theorem dX7_init_16 : decode cX7_init 16 = .ok (.new 7, 3) := by decide +kernel
theorem dX7_init_19 : decode cX7_init 19 = .ok (.dup, 1) := by decide +kernel
theorem dX7_init_20 : decode cX7_init 20 = .ok (.invokespecial 9, 3) := by decide +kernel
theorem dX7_init_23 : decode cX7_init 23 = .ok (.putfield 16, 3) := by decide +kernel
theorem dX7_init_26 : decode cX7_init 26 = .ok (.aload_n 0, 1) := by decide +kernel
theorem dX7_init_27 : decode cX7_init 27 = .ok (.new 19, 3) := by decide +kernel
theorem dX7_init_30 : decode cX7_init 30 = .ok (.dup, 1) := by decide +kernel
theorem dX7_init_31 : decode cX7_init 31 = .ok (.invokespecial 21, 3) := by decide +kernel
theorem dX7_init_34 : decode cX7_init 34 = .ok (.putfield 22, 3) := by decide +kernel
theorem dX7_init_37 : decode cX7_init 37 = .ok (.aload_n 0, 1) := by decide +kernel
theorem dX7_init_38 : decode cX7_init 38 = .ok (.new 26, 3) := by decide +kernel
theorem dX7_init_41 : decode cX7_init 41 = .ok (.dup, 1) := by decide +kernel
theorem dX7_init_42 : decode cX7_init 42 = .ok (.invokespecial 28, 3) := by decide +kernel
theorem dX7_init_45 : decode cX7_init 45 = .ok (.putfield 29, 3) := by decide +kernel
theorem dX7_init_48 : decode cX7_init 48 = .ok (.aload_n 0, 1) := by decide +kernel
theorem dX7_init_49 : decode cX7_init 49 = .ok (.new 33, 3) := by decide +kernel
theorem dX7_init_52 : decode cX7_init 52 = .ok (.dup, 1) := by decide +kernel
theorem dX7_init_53 : decode cX7_init 53 = .ok (.invokespecial 35, 3) := by decide +kernel
theorem dX7_init_56 : decode cX7_init 56 = .ok (.putfield 36, 3) := by decide +kernel
theorem dX7_init_59 : decode cX7_init 59 = .ok (.return_, 1) := by decide +kernel
set_option maxRecDepth 20000 in
theorem ggX7_room_X7_isWithin : GoodIn wsX7_room wsX7_isWithin := goodIn_r _ [7] (by decide +kernel) (by decide +kernel)
set_option maxRecDepth 20000 in
theorem gX7_room_X7_isWithin : GoodIn wsX7_room (va_wsS RX7 40 yX7_isWithin wsX7_isWithin) := goodIn_app (goodIn_of _ (by decide +kernel)) ggX7_room_X7_isWithin
set_option maxRecDepth 20000 in
theorem ggX7_room_X2_record : GoodIn wsX7_room wsX2_record := goodIn_r _ [12, 13, 14, 15, 16, 17, 11, 18, 19, 20, 21, 22, 23, 24, 25, 26, 27, 28, 29, 30, 31, 32, 33, 34, 35, 36, 37, 38, 39, 40, 41, 42, 43, 44, 45, 46, 47, 48, 49, 50, 51, 52, 53, 54, 55, 56, 57, 58, 59, 60, 61, 62, 63, 64, 65, 66, 67, 68, 69, 70, 71, 72, 73, 74, 75, 76, 77, 78, 79, 80, 81, 82, 106, 107, 96, 97, 98, 99, 100, 101, 102, 103, 104, 105, 108, 109, 110, 111, 112, 113, 114, 115, 116, 117, 118, 119, 120, 121, 122, 123, 124, 125, 126, 127, 128, 129, 130, 131] (by decide +kernel) (by decide +kernel)
set_option maxRecDepth 20000 in
theorem gX7_room_X2_record : GoodIn wsX7_room (wsV RX7 48 RX2 yX2_record wsX2_record) := goodIn_app (goodIn_of _ (by decide +kernel)) ggX7_room_X2_record
set_option maxRecDepth 20000 in
theorem ggX7_room_X3_addRoom : GoodIn wsX7_room wsX3_addRoom := goodIn_r _ [86, 32, 24, 34, 87, 88, 89, 41, 90, 43, 44, 48, 96, 97, 98, 99, 100, 101, 102, 103, 104, 105, 108, 109, 110, 111, 112, 113, 114] (by decide +kernel) (by decide +kernel)
set_option maxRecDepth 20000 in
theorem gX7_room_X3_addRoom : GoodIn wsX7_room (wsV RX7 52 RX3 yX3_addRoom wsX3_addRoom) := goodIn_app (goodIn_of _ (by decide +kernel)) ggX7_room_X3_addRoom
theorem dX7_room_0 : decode cX7_room 0 = .ok (.iload_n 1, 1) := by decide +kernel
theorem dX7_room_1 : decode cX7_room 1 = .ok (.bipush 10, 2) := by decide +kernel
theorem dX7_room_3 : decode cX7_room 3 = .ok (.sipush 10000, 3) := by decide +kernel
theorem dX7_room_6 : decode cX7_room 6 = .ok (.invokestatic 40, 3) := by decide +kernel
theorem dX7_room_9 : decode cX7_room 9 = .ok (.ifCond .eq 14, 3) := by decide +kernel
theorem dX7_room_12 : decode cX7_room 12 = .ok (.iload_n 2, 1) := by decide +kernel
theorem dX7_room_13 : decode cX7_room 13 = .ok (.iconst 0, 1) := by decide +kernel
theorem dX7_room_14 : decode cX7_room 14 = .ok (.sipush 1000, 3) := by decide +kernel
theorem dX7_room_17 : decode cX7_room 17 = .ok (.invokestatic 40, 3) := by decide +kernel
theorem dX7_room_20 : decode cX7_room 20 = .ok (.ifCond .ne 5, 3) := by decide +kernel
theorem dX7_room_23 : decode cX7_room 23 = .ok (.iconst (-1), 1) := by decide +kernel
theorem dX7_room_24 : decode cX7_room 24 = .ok (.ireturn, 1) := by decide +kernel
theorem dX7_room_25 : decode cX7_room 25 = .ok (.aload_n 0, 1) := by decide +kernel
theorem dX7_room_26 : decode cX7_room 26 = .ok (.getfield 10, 3) := by decide +kernel
theorem dX7_room_29 : decode cX7_room 29 = .ok (.getfield 44, 3) := by decide +kernel
theorem dX7_room_32 : decode cX7_room 32 = .ok (.bipush 8, 2) := by decide +kernel
theorem dX7_room_34 : decode cX7_room 34 = .ok (.if_icmp .lt 6, 3) := by decide +kernel
theorem dX7_room_37 : decode cX7_room 37 = .ok (.bipush (-3), 2) := by decide +kernel
theorem dX7_room_39 : decode cX7_room 39 = .ok (.ireturn, 1) := by decide +kernel
theorem dX7_room_40 : decode cX7_room 40 = .ok (.aload_n 0, 1) := by decide +kernel
theorem dX7_room_41 : decode cX7_room 41 = .ok (.getfield 22, 3) := by decide +kernel
theorem dX7_room_44 : decode cX7_room 44 = .ok (.aload_n 0, 1) := by decide +kernel
theorem dX7_room_45 : decode cX7_room 45 = .ok (.getfield 10, 3) := by decide +kernel
theorem dX7_room_48 : decode cX7_room 48 = .ok (.invokevirtual 48, 3) := by decide +kernel
theorem dX7_room_51 : decode cX7_room 51 = .ok (.aload_n 0, 1) := by decide +kernel
theorem dX7_room_52 : decode cX7_room 52 = .ok (.getfield 10, 3) := by decide +kernel
theorem dX7_room_55 : decode cX7_room 55 = .ok (.iload_n 1, 1) := by decide +kernel
theorem dX7_room_56 : decode cX7_room 56 = .ok (.iload_n 2, 1) := by decide +kernel
theorem dX7_room_57 : decode cX7_room 57 = .ok (.invokevirtual 52, 3) := by decide +kernel
theorem dX7_room_60 : decode cX7_room 60 = .ok (.ireturn, 1) := by decide +kernel
set_option maxRecDepth 20000 in
theorem ggX7_door_X3_roomAt : GoodIn wsX7_door wsX3_roomAt := goodIn_r _ [8, 9, 10, 115, 116, 117, 118, 119, 120, 121, 122, 123, 124] (by decide +kernel) (by decide +kernel)
set_option maxRecDepth 20000 in
theorem gX7_door_X3_roomAt : GoodIn wsX7_door (wsV RX7 56 RX3 yX3_roomAt wsX3_roomAt) := goodIn_app (goodIn_of _ (by decide +kernel)) ggX7_door_X3_roomAt
set_option maxRecDepth 20000 in
theorem ggX7_door_X7_isRoomOrOutside : GoodIn wsX7_door wsX7_isRoomOrOutside := goodIn_r _ [15, 1, 4, 5, 6, 7, 8, 9, 10, 110, 111, 112, 113, 114, 115, 116, 117, 118, 119, 120, 121, 122, 123, 124] (by decide +kernel) (by decide +kernel)
set_option maxRecDepth 20000 in
theorem gX7_door_X7_isRoomOrOutside : GoodIn wsX7_door (wsV RX7 60 RX7 yX7_isRoomOrOutside wsX7_isRoomOrOutside) := goodIn_app (goodIn_of _ (by decide +kernel)) ggX7_door_X7_isRoomOrOutside
set_option maxRecDepth 20000 in
theorem ggX7_door_X7_isWithin : GoodIn wsX7_door wsX7_isWithin := goodIn_r _ [18] (by decide +kernel) (by decide +kernel)
set_option maxRecDepth 20000 in
theorem gX7_door_X7_isWithin : GoodIn wsX7_door (va_wsS RX7 40 yX7_isWithin wsX7_isWithin) := goodIn_app (goodIn_of _ (by decide +kernel)) ggX7_door_X7_isWithin
set_option maxRecDepth 20000 in
theorem ggX7_door_X3_hasWallFor : GoodIn wsX7_door wsX3_hasWallFor := goodIn_r _ [22, 23, 24, 25, 26, 5, 6, 7, 8, 9, 10, 27, 28, 29, 30, 31, 32, 33, 115, 116, 117, 118, 119, 120, 121, 122, 123, 124, 125, 126, 127, 128, 129, 130, 131, 132, 133, 134, 135, 136, 137, 138, 139, 140, 141] (by decide +kernel) (by decide +kernel)
set_option maxRecDepth 20000 in
theorem gX7_door_X3_hasWallFor : GoodIn wsX7_door (wsV RX7 64 RX3 yX3_hasWallFor wsX3_hasWallFor) := goodIn_app (goodIn_of _ (by decide +kernel)) ggX7_door_X3_hasWallFor
set_option maxRecDepth 20000 in
theorem ggX7_door_X2_record : GoodIn wsX7_door wsX2_record := goodIn_r _ [38, 39, 40, 41, 42, 43, 37, 44, 45, 46, 47, 7, 48, 10, 23, 49, 50, 51, 52, 53, 54, 9, 55, 56, 57, 58, 59, 60, 61, 62, 63, 64, 65, 66, 67, 68, 69, 70, 71, 72, 73, 74, 75, 30, 76, 32, 77, 78, 79, 80, 81, 33, 82, 83, 84, 85, 86, 87, 88, 89, 90, 91, 92, 93, 94, 95, 96, 97, 98, 99, 100, 101, 142, 143, 115, 116, 117, 118, 119, 120, 121, 122, 123, 124, 135, 136, 137, 138, 139, 140, 141, 125, 126, 127, 128, 129, 130, 131, 132, 133, 134, 144, 145, 146, 147, 148, 149, 150] (by decide +kernel) (by decide +kernel)
set_option maxRecDepth 20000 in
theorem gX7_door_X2_record : GoodIn wsX7_door (wsV RX7 48 RX2 yX2_record wsX2_record) := goodIn_app (goodIn_of _ (by decide +kernel)) ggX7_door_X2_record
set_option maxRecDepth 20000 in
theorem ggX7_door_X3_addDoor : GoodIn wsX7_door wsX3_addDoor := goodIn_r _ [105, 55, 23, 106, 107, 108, 30, 109, 33, 32, 77, 78, 115, 116, 117, 118, 119, 120, 121, 122, 123, 124, 125, 126, 127, 128, 129, 130, 131, 132, 133, 134] (by decide +kernel) (by decide +kernel)
set_option maxRecDepth 20000 in
theorem gX7_door_X3_addDoor : GoodIn wsX7_door (wsV RX7 71 RX3 yX3_addDoor wsX3_addDoor) := goodIn_app (goodIn_of _ (by decide +kernel)) ggX7_door_X3_addDoor
theorem dX7_door_0 : decode cX7_door 0 = .ok (.aload_n 0, 1) := by decide +kernel
theorem dX7_door_1 : decode cX7_door 1 = .ok (.getfield 10, 3) := by decide +kernel
theorem dX7_door_4 : decode cX7_door 4 = .ok (.iload_n 1, 1) := by decide +kernel
theorem dX7_door_5 : decode cX7_door 5 = .ok (.invokevirtual 56, 3) := by decide +kernel
theorem dX7_door_8 : decode cX7_door 8 = .ok (.ifnull 48, 3) := by decide +kernel
theorem dX7_door_11 : decode cX7_door 11 = .ok (.aload_n 0, 1) := by decide +kernel
theorem dX7_door_12 : decode cX7_door 12 = .ok (.iload_n 2, 1) := by decide +kernel
theorem dX7_door_13 : decode cX7_door 13 = .ok (.invokevirtual 60, 3) := by decide +kernel
theorem dX7_door_16 : decode cX7_door 16 = .ok (.ifCond .eq 40, 3) := by decide +kernel
theorem dX7_door_19 : decode cX7_door 19 = .ok (.iload_n 1, 1) := by decide +kernel
theorem dX7_door_20 : decode cX7_door 20 = .ok (.iload_n 2, 1) := by decide +kernel
theorem dX7_door_21 : decode cX7_door 21 = .ok (.if_icmp .eq 35, 3) := by decide +kernel
theorem dX7_door_24 : decode cX7_door 24 = .ok (.iload_n 3, 1) := by decide +kernel
theorem dX7_door_25 : decode cX7_door 25 = .ok (.iconst 1, 1) := by decide +kernel
theorem dX7_door_26 : decode cX7_door 26 = .ok (.sipush 1000, 3) := by decide +kernel
theorem dX7_door_29 : decode cX7_door 29 = .ok (.invokestatic 40, 3) := by decide +kernel
theorem dX7_door_32 : decode cX7_door 32 = .ok (.ifCond .eq 24, 3) := by decide +kernel
theorem dX7_door_35 : decode cX7_door 35 = .ok (.iload 4, 2) := by decide +kernel
theorem dX7_door_37 : decode cX7_door 37 = .ok (.iconst 1, 1) := by decide +kernel
theorem dX7_door_38 : decode cX7_door 38 = .ok (.bipush 10, 2) := by decide +kernel
theorem dX7_door_40 : decode cX7_door 40 = .ok (.invokestatic 40, 3) := by decide +kernel
theorem dX7_door_43 : decode cX7_door 43 = .ok (.ifCond .eq 13, 3) := by decide +kernel
theorem dX7_door_46 : decode cX7_door 46 = .ok (.iload 5, 2) := by decide +kernel
theorem dX7_door_48 : decode cX7_door 48 = .ok (.iconst 0, 1) := by decide +kernel
theorem dX7_door_49 : decode cX7_door 49 = .ok (.iconst 5, 1) := by decide +kernel
theorem dX7_door_50 : decode cX7_door 50 = .ok (.invokestatic 40, 3) := by decide +kernel
theorem dX7_door_53 : decode cX7_door 53 = .ok (.ifCond .ne 5, 3) := by decide +kernel
theorem dX7_door_56 : decode cX7_door 56 = .ok (.iconst (-1), 1) := by decide +kernel
theorem dX7_door_57 : decode cX7_door 57 = .ok (.ireturn, 1) := by decide +kernel
theorem dX7_door_58 : decode cX7_door 58 = .ok (.aload_n 0, 1) := by decide +kernel
theorem dX7_door_59 : decode cX7_door 59 = .ok (.getfield 10, 3) := by decide +kernel
theorem dX7_door_62 : decode cX7_door 62 = .ok (.iload_n 1, 1) := by decide +kernel
theorem dX7_door_63 : decode cX7_door 63 = .ok (.iload_n 3, 1) := by decide +kernel
theorem dX7_door_64 : decode cX7_door 64 = .ok (.invokevirtual 64, 3) := by decide +kernel
theorem dX7_door_67 : decode cX7_door 67 = .ok (.ifCond .eq 15, 3) := by decide +kernel
theorem dX7_door_70 : decode cX7_door 70 = .ok (.aload_n 0, 1) := by decide +kernel
theorem dX7_door_71 : decode cX7_door 71 = .ok (.getfield 10, 3) := by decide +kernel
theorem dX7_door_74 : decode cX7_door 74 = .ok (.iload_n 2, 1) := by decide +kernel
theorem dX7_door_75 : decode cX7_door 75 = .ok (.iload_n 3, 1) := by decide +kernel
theorem dX7_door_76 : decode cX7_door 76 = .ok (.invokevirtual 64, 3) := by decide +kernel
theorem dX7_door_79 : decode cX7_door 79 = .ok (.ifCond .ne 6, 3) := by decide +kernel
theorem dX7_door_82 : decode cX7_door 82 = .ok (.bipush (-2), 2) := by decide +kernel
theorem dX7_door_84 : decode cX7_door 84 = .ok (.ireturn, 1) := by decide +kernel
theorem dX7_door_85 : decode cX7_door 85 = .ok (.aload_n 0, 1) := by decide +kernel
theorem dX7_door_86 : decode cX7_door 86 = .ok (.getfield 10, 3) := by decide +kernel
theorem dX7_door_89 : decode cX7_door 89 = .ok (.getfield 68, 3) := by decide +kernel
theorem dX7_door_92 : decode cX7_door 92 = .ok (.bipush 12, 2) := by decide +kernel
theorem dX7_door_94 : decode cX7_door 94 = .ok (.if_icmp .lt 6, 3) := by decide +kernel
theorem dX7_door_97 : decode cX7_door 97 = .ok (.bipush (-3), 2) := by decide +kernel
theorem dX7_door_99 : decode cX7_door 99 = .ok (.ireturn, 1) := by decide +kernel
theorem dX7_door_100 : decode cX7_door 100 = .ok (.aload_n 0, 1) := by decide +kernel
theorem dX7_door_101 : decode cX7_door 101 = .ok (.getfield 22, 3) := by decide +kernel
theorem dX7_door_104 : decode cX7_door 104 = .ok (.aload_n 0, 1) := by decide +kernel
theorem dX7_door_105 : decode cX7_door 105 = .ok (.getfield 10, 3) := by decide +kernel
theorem dX7_door_108 : decode cX7_door 108 = .ok (.invokevirtual 48, 3) := by decide +kernel
theorem dX7_door_111 : decode cX7_door 111 = .ok (.aload_n 0, 1) := by decide +kernel
theorem dX7_door_112 : decode cX7_door 112 = .ok (.getfield 10, 3) := by decide +kernel
theorem dX7_door_115 : decode cX7_door 115 = .ok (.iload_n 1, 1) := by decide +kernel
theorem dX7_door_116 : decode cX7_door 116 = .ok (.iload_n 2, 1) := by decide +kernel
theorem dX7_door_117 : decode cX7_door 117 = .ok (.iload_n 3, 1) := by decide +kernel
theorem dX7_door_118 : decode cX7_door 118 = .ok (.iload 4, 2) := by decide +kernel
theorem dX7_door_120 : decode cX7_door 120 = .ok (.iload 5, 2) := by decide +kernel
theorem dX7_door_122 : decode cX7_door 122 = .ok (.invokevirtual 71, 3) := by decide +kernel
theorem dX7_door_125 : decode cX7_door 125 = .ok (.ireturn, 1) := by decide +kernel
set_option maxRecDepth 20000 in
theorem ggX7_open_X3_doorAt : GoodIn wsX7_open wsX3_doorAt := goodIn_r _ [8, 9, 10, 130, 131, 132, 133, 134, 135, 136, 137, 138, 139] (by decide +kernel) (by decide +kernel)
set_option maxRecDepth 20000 in
theorem gX7_open_X3_doorAt : GoodIn wsX7_open (wsV RX7 75 RX3 yX3_doorAt wsX3_doorAt) := goodIn_app (goodIn_of _ (by decide +kernel)) ggX7_open_X3_doorAt
set_option maxRecDepth 20000 in
theorem ggX7_open_X7_isWithin : GoodIn wsX7_open wsX7_isWithin := goodIn_r _ [14] (by decide +kernel) (by decide +kernel)
set_option maxRecDepth 20000 in
theorem gX7_open_X7_isWithin : GoodIn wsX7_open (va_wsS RX7 40 yX7_isWithin wsX7_isWithin) := goodIn_app (goodIn_of _ (by decide +kernel)) ggX7_open_X7_isWithin
set_option maxRecDepth 20000 in
theorem ggX7_open_X3_reasonToRefuse : GoodIn wsX7_open wsX3_reasonToRefuse := goodIn_r _ [18, 19, 20, 21, 22, 23, 24, 25, 26, 27, 28, 29, 30, 7, 31, 32, 33, 34, 35, 36, 37, 38, 39, 40, 41, 42, 43, 44, 120, 121, 122, 123, 124, 125, 126, 127, 128, 129, 130, 131, 132, 133, 134, 135, 136, 137, 138, 139, 140, 141, 142, 143, 144, 145, 146] (by decide +kernel) (by decide +kernel)
set_option maxRecDepth 20000 in
theorem gX7_open_X3_reasonToRefuse : GoodIn wsX7_open (wsV RX7 79 RX3 yX3_reasonToRefuse wsX3_reasonToRefuse) := goodIn_app (goodIn_of _ (by decide +kernel)) ggX7_open_X3_reasonToRefuse
set_option maxRecDepth 20000 in
theorem ggX7_open_X2_record : GoodIn wsX7_open wsX2_record := goodIn_r _ [49, 50, 51, 52, 53, 54, 48, 55, 56, 57, 58, 7, 59, 37, 10, 60, 27, 61, 62, 63, 64, 36, 9, 65, 66, 67, 68, 69, 70, 71, 41, 72, 43, 73, 44, 74, 75, 76, 77, 78, 79, 80, 81, 82, 83, 84, 85, 86, 87, 88, 89, 90, 91, 92, 93, 94, 95, 96, 97, 98, 99, 100, 101, 102, 103, 104, 105, 106, 107, 108, 109, 110, 147, 148, 130, 131, 132, 133, 134, 135, 136, 137, 138, 139, 140, 141, 142, 143, 144, 145, 146, 120, 121, 122, 123, 124, 125, 126, 127, 128, 129, 149, 150, 151, 152, 153, 154, 155] (by decide +kernel) (by decide +kernel)
set_option maxRecDepth 20000 in
theorem gX7_open_X2_record : GoodIn wsX7_open (wsV RX7 48 RX2 yX2_record wsX2_record) := goodIn_app (goodIn_of _ (by decide +kernel)) ggX7_open_X2_record
set_option maxRecDepth 20000 in
theorem ggX7_open_X0_aimAt : GoodIn wsX7_open wsX0_aimAt := goodIn_r _ [114, 89, 88, 120, 121, 122, 123, 124, 125, 126, 127, 128, 129] (by decide +kernel) (by decide +kernel)
set_option maxRecDepth 20000 in
theorem gX7_open_X0_aimAt : GoodIn wsX7_open (wsV RX7 88 RX0 yX0_aimAt wsX0_aimAt) := goodIn_app (goodIn_of _ (by decide +kernel)) ggX7_open_X0_aimAt
theorem dX7_open_0 : decode cX7_open 0 = .ok (.aload_n 0, 1) := by decide +kernel
theorem dX7_open_1 : decode cX7_open 1 = .ok (.getfield 10, 3) := by decide +kernel
theorem dX7_open_4 : decode cX7_open 4 = .ok (.iload_n 1, 1) := by decide +kernel
theorem dX7_open_5 : decode cX7_open 5 = .ok (.invokevirtual 75, 3) := by decide +kernel
theorem dX7_open_8 : decode cX7_open 8 = .ok (.astore_n 3, 1) := by decide +kernel
theorem dX7_open_9 : decode cX7_open 9 = .ok (.aload_n 3, 1) := by decide +kernel
theorem dX7_open_10 : decode cX7_open 10 = .ok (.ifnull 13, 3) := by decide +kernel
theorem dX7_open_13 : decode cX7_open 13 = .ok (.iload_n 2, 1) := by decide +kernel
theorem dX7_open_14 : decode cX7_open 14 = .ok (.iconst 0, 1) := by decide +kernel
theorem dX7_open_15 : decode cX7_open 15 = .ok (.bipush 10, 2) := by decide +kernel
theorem dX7_open_17 : decode cX7_open 17 = .ok (.invokestatic 40, 3) := by decide +kernel
theorem dX7_open_20 : decode cX7_open 20 = .ok (.ifCond .ne 5, 3) := by decide +kernel
theorem dX7_open_23 : decode cX7_open 23 = .ok (.iconst (-1), 1) := by decide +kernel
theorem dX7_open_24 : decode cX7_open 24 = .ok (.ireturn, 1) := by decide +kernel
theorem dX7_open_25 : decode cX7_open 25 = .ok (.aload_n 0, 1) := by decide +kernel
theorem dX7_open_26 : decode cX7_open 26 = .ok (.getfield 10, 3) := by decide +kernel
theorem dX7_open_29 : decode cX7_open 29 = .ok (.aload_n 3, 1) := by decide +kernel
theorem dX7_open_30 : decode cX7_open 30 = .ok (.iload_n 2, 1) := by decide +kernel
theorem dX7_open_31 : decode cX7_open 31 = .ok (.invokevirtual 79, 3) := by decide +kernel
theorem dX7_open_34 : decode cX7_open 34 = .ok (.ifCond .eq 6, 3) := by decide +kernel
theorem dX7_open_37 : decode cX7_open 37 = .ok (.bipush (-2), 2) := by decide +kernel
theorem dX7_open_39 : decode cX7_open 39 = .ok (.ireturn, 1) := by decide +kernel
theorem dX7_open_40 : decode cX7_open 40 = .ok (.aload_n 0, 1) := by decide +kernel
theorem dX7_open_41 : decode cX7_open 41 = .ok (.getfield 22, 3) := by decide +kernel
theorem dX7_open_44 : decode cX7_open 44 = .ok (.aload_n 0, 1) := by decide +kernel
theorem dX7_open_45 : decode cX7_open 45 = .ok (.getfield 10, 3) := by decide +kernel
theorem dX7_open_48 : decode cX7_open 48 = .ok (.invokevirtual 48, 3) := by decide +kernel
theorem dX7_open_51 : decode cX7_open 51 = .ok (.aload_n 3, 1) := by decide +kernel
theorem dX7_open_52 : decode cX7_open 52 = .ok (.getfield 83, 3) := by decide +kernel
theorem dX7_open_55 : decode cX7_open 55 = .ok (.istore 4, 2) := by decide +kernel
theorem dX7_open_57 : decode cX7_open 57 = .ok (.aload_n 3, 1) := by decide +kernel
theorem dX7_open_58 : decode cX7_open 58 = .ok (.iload_n 2, 1) := by decide +kernel
theorem dX7_open_59 : decode cX7_open 59 = .ok (.invokevirtual 88, 3) := by decide +kernel
theorem dX7_open_62 : decode cX7_open 62 = .ok (.iload 4, 2) := by decide +kernel
theorem dX7_open_64 : decode cX7_open 64 = .ok (.ireturn, 1) := by decide +kernel
set_option maxRecDepth 20000 in
theorem ggX7_lock_X3_doorAt : GoodIn wsX7_lock wsX3_doorAt := goodIn_r _ [10, 11, 12, 104, 105, 106, 107, 108, 109, 110, 111, 112, 113] (by decide +kernel) (by decide +kernel)
set_option maxRecDepth 20000 in
theorem gX7_lock_X3_doorAt : GoodIn wsX7_lock (wsV RX7 75 RX3 yX3_doorAt wsX3_doorAt) := goodIn_app (goodIn_of _ (by decide +kernel)) ggX7_lock_X3_doorAt
set_option maxRecDepth 20000 in
theorem ggX7_lock_X7_isWithin : GoodIn wsX7_lock wsX7_isWithin := goodIn_r _ [16] (by decide +kernel) (by decide +kernel)
set_option maxRecDepth 20000 in
theorem gX7_lock_X7_isWithin : GoodIn wsX7_lock (va_wsS RX7 40 yX7_isWithin wsX7_isWithin) := goodIn_app (goodIn_of _ (by decide +kernel)) ggX7_lock_X7_isWithin
set_option maxRecDepth 20000 in
theorem ggX7_lock_X2_record : GoodIn wsX7_lock wsX2_record := goodIn_r _ [21, 22, 23, 24, 25, 26, 20, 27, 28, 29, 30, 9, 31, 32, 12, 33, 34, 35, 36, 37, 38, 39, 11, 40, 41, 42, 43, 44, 45, 46, 47, 48, 49, 50, 51, 52, 53, 54, 55, 56, 57, 58, 59, 60, 61, 62, 63, 64, 65, 66, 67, 68, 69, 70, 71, 72, 73, 74, 75, 76, 77, 78, 79, 80, 81, 82, 83, 84, 85, 86, 87, 88, 114, 115, 104, 105, 106, 107, 108, 109, 110, 111, 112, 113, 116, 117, 118, 119, 120, 121, 122, 94, 95, 96, 97, 98, 99, 100, 101, 102, 103, 123, 124, 125, 126, 127, 128, 129] (by decide +kernel) (by decide +kernel)
set_option maxRecDepth 20000 in
theorem gX7_lock_X2_record : GoodIn wsX7_lock (wsV RX7 48 RX2 yX2_record wsX2_record) := goodIn_app (goodIn_of _ (by decide +kernel)) ggX7_lock_X2_record
theorem dX7_lock_0 : decode cX7_lock 0 = .ok (.aload_n 0, 1) := by decide +kernel
theorem dX7_lock_1 : decode cX7_lock 1 = .ok (.getfield 10, 3) := by decide +kernel
theorem dX7_lock_4 : decode cX7_lock 4 = .ok (.iload_n 1, 1) := by decide +kernel
theorem dX7_lock_5 : decode cX7_lock 5 = .ok (.invokevirtual 75, 3) := by decide +kernel
theorem dX7_lock_8 : decode cX7_lock 8 = .ok (.astore_n 3, 1) := by decide +kernel
theorem dX7_lock_9 : decode cX7_lock 9 = .ok (.aload_n 3, 1) := by decide +kernel
theorem dX7_lock_10 : decode cX7_lock 10 = .ok (.ifnull 12, 3) := by decide +kernel
theorem dX7_lock_13 : decode cX7_lock 13 = .ok (.iload_n 2, 1) := by decide +kernel
theorem dX7_lock_14 : decode cX7_lock 14 = .ok (.iconst 0, 1) := by decide +kernel
theorem dX7_lock_15 : decode cX7_lock 15 = .ok (.iconst 1, 1) := by decide +kernel
theorem dX7_lock_16 : decode cX7_lock 16 = .ok (.invokestatic 40, 3) := by decide +kernel
theorem dX7_lock_19 : decode cX7_lock 19 = .ok (.ifCond .ne 5, 3) := by decide +kernel
theorem dX7_lock_22 : decode cX7_lock 22 = .ok (.iconst (-1), 1) := by decide +kernel
theorem dX7_lock_23 : decode cX7_lock 23 = .ok (.ireturn, 1) := by decide +kernel
theorem dX7_lock_24 : decode cX7_lock 24 = .ok (.aload_n 3, 1) := by decide +kernel
theorem dX7_lock_25 : decode cX7_lock 25 = .ok (.getfield 92, 3) := by decide +kernel
theorem dX7_lock_28 : decode cX7_lock 28 = .ok (.iload_n 2, 1) := by decide +kernel
theorem dX7_lock_29 : decode cX7_lock 29 = .ok (.iconst 1, 1) := by decide +kernel
theorem dX7_lock_30 : decode cX7_lock 30 = .ok (.if_icmp .ne 7, 3) := by decide +kernel
theorem dX7_lock_33 : decode cX7_lock 33 = .ok (.iconst 1, 1) := by decide +kernel
theorem dX7_lock_34 : decode cX7_lock 34 = .ok (.goto 4, 3) := by decide +kernel
theorem dX7_lock_37 : decode cX7_lock 37 = .ok (.iconst 0, 1) := by decide +kernel
theorem dX7_lock_38 : decode cX7_lock 38 = .ok (.if_icmp .ne 6, 3) := by decide +kernel
theorem dX7_lock_41 : decode cX7_lock 41 = .ok (.bipush (-2), 2) := by decide +kernel
theorem dX7_lock_43 : decode cX7_lock 43 = .ok (.ireturn, 1) := by decide +kernel
theorem dX7_lock_44 : decode cX7_lock 44 = .ok (.aload_n 0, 1) := by decide +kernel
theorem dX7_lock_45 : decode cX7_lock 45 = .ok (.getfield 22, 3) := by decide +kernel
theorem dX7_lock_48 : decode cX7_lock 48 = .ok (.aload_n 0, 1) := by decide +kernel
theorem dX7_lock_49 : decode cX7_lock 49 = .ok (.getfield 10, 3) := by decide +kernel
theorem dX7_lock_52 : decode cX7_lock 52 = .ok (.invokevirtual 48, 3) := by decide +kernel
theorem dX7_lock_55 : decode cX7_lock 55 = .ok (.aload_n 3, 1) := by decide +kernel
theorem dX7_lock_56 : decode cX7_lock 56 = .ok (.iload_n 2, 1) := by decide +kernel
theorem dX7_lock_57 : decode cX7_lock 57 = .ok (.iconst 1, 1) := by decide +kernel
theorem dX7_lock_58 : decode cX7_lock 58 = .ok (.if_icmp .ne 7, 3) := by decide +kernel
theorem dX7_lock_61 : decode cX7_lock 61 = .ok (.iconst 1, 1) := by decide +kernel
theorem dX7_lock_62 : decode cX7_lock 62 = .ok (.goto 4, 3) := by decide +kernel
theorem dX7_lock_65 : decode cX7_lock 65 = .ok (.iconst 0, 1) := by decide +kernel
theorem dX7_lock_66 : decode cX7_lock 66 = .ok (.putfield 92, 3) := by decide +kernel
theorem dX7_lock_69 : decode cX7_lock 69 = .ok (.aload_n 3, 1) := by decide +kernel
theorem dX7_lock_70 : decode cX7_lock 70 = .ok (.getfield 92, 3) := by decide +kernel
theorem dX7_lock_73 : decode cX7_lock 73 = .ok (.ifCond .eq 11, 3) := by decide +kernel
theorem dX7_lock_76 : decode cX7_lock 76 = .ok (.aload_n 3, 1) := by decide +kernel
theorem dX7_lock_77 : decode cX7_lock 77 = .ok (.aload_n 3, 1) := by decide +kernel
theorem dX7_lock_78 : decode cX7_lock 78 = .ok (.getfield 96, 3) := by decide +kernel
theorem dX7_lock_81 : decode cX7_lock 81 = .ok (.putfield 83, 3) := by decide +kernel
theorem dX7_lock_84 : decode cX7_lock 84 = .ok (.aload_n 3, 1) := by decide +kernel
theorem dX7_lock_85 : decode cX7_lock 85 = .ok (.getfield 96, 3) := by decide +kernel
theorem dX7_lock_88 : decode cX7_lock 88 = .ok (.ireturn, 1) := by decide +kernel
set_option maxRecDepth 20000 in
theorem ggX7_set_X7_isWithin : GoodIn wsX7_set wsX7_isWithin := goodIn_r _ [8] (by decide +kernel) (by decide +kernel)
set_option maxRecDepth 20000 in
theorem gX7_set_X7_isWithin : GoodIn wsX7_set (va_wsS RX7 40 yX7_isWithin wsX7_isWithin) := goodIn_app (goodIn_of _ (by decide +kernel)) ggX7_set_X7_isWithin
set_option maxRecDepth 20000 in
theorem ggX7_set_X2_record : GoodIn wsX7_set wsX2_record := goodIn_r _ [13, 14, 15, 16, 17, 18, 12, 19, 20, 21, 22, 23, 24, 25, 26, 27, 28, 29, 30, 31, 32, 33, 34, 35, 36, 37, 38, 39, 40, 41, 42, 43, 44, 45, 46, 47, 48, 49, 50, 51, 52, 53, 54, 55, 56, 57, 58, 59, 60, 61, 62, 63, 64, 65, 66, 67, 68, 69, 70, 71, 72, 73, 74, 75, 76, 77, 78, 79, 80, 81, 82, 83, 99, 100, 89, 90, 91, 92, 93, 94, 95, 96, 97, 98, 101, 102, 103, 104, 105, 106, 107, 108, 109, 110, 111, 112, 113, 114, 115, 116, 117, 118, 119, 120, 121, 122, 123, 124] (by decide +kernel) (by decide +kernel)
set_option maxRecDepth 20000 in
theorem gX7_set_X2_record : GoodIn wsX7_set (wsV RX7 48 RX2 yX2_record wsX2_record) := goodIn_app (goodIn_of _ (by decide +kernel)) ggX7_set_X2_record
theorem dX7_set_0 : decode cX7_set 0 = .ok (.iload_n 1, 1) := by decide +kernel
theorem dX7_set_1 : decode cX7_set 1 = .ok (.iconst 0, 1) := by decide +kernel
theorem dX7_set_2 : decode cX7_set 2 = .ok (.iconst 1, 1) := by decide +kernel
theorem dX7_set_3 : decode cX7_set 3 = .ok (.invokestatic 40, 3) := by decide +kernel
theorem dX7_set_6 : decode cX7_set 6 = .ok (.ifCond .eq 13, 3) := by decide +kernel
theorem dX7_set_9 : decode cX7_set 9 = .ok (.iload_n 2, 1) := by decide +kernel
theorem dX7_set_10 : decode cX7_set 10 = .ok (.iconst 0, 1) := by decide +kernel
theorem dX7_set_11 : decode cX7_set 11 = .ok (.ldc 99, 2) := by decide +kernel
theorem dX7_set_13 : decode cX7_set 13 = .ok (.invokestatic 40, 3) := by decide +kernel
theorem dX7_set_16 : decode cX7_set 16 = .ok (.ifCond .ne 5, 3) := by decide +kernel
theorem dX7_set_19 : decode cX7_set 19 = .ok (.iconst (-1), 1) := by decide +kernel
theorem dX7_set_20 : decode cX7_set 20 = .ok (.ireturn, 1) := by decide +kernel
theorem dX7_set_21 : decode cX7_set 21 = .ok (.aload_n 0, 1) := by decide +kernel
theorem dX7_set_22 : decode cX7_set 22 = .ok (.getfield 22, 3) := by decide +kernel
theorem dX7_set_25 : decode cX7_set 25 = .ok (.aload_n 0, 1) := by decide +kernel
theorem dX7_set_26 : decode cX7_set 26 = .ok (.getfield 10, 3) := by decide +kernel
theorem dX7_set_29 : decode cX7_set 29 = .ok (.invokevirtual 48, 3) := by decide +kernel
theorem dX7_set_32 : decode cX7_set 32 = .ok (.aload_n 0, 1) := by decide +kernel
theorem dX7_set_33 : decode cX7_set 33 = .ok (.getfield 10, 3) := by decide +kernel
theorem dX7_set_36 : decode cX7_set 36 = .ok (.getfield 100, 3) := by decide +kernel
theorem dX7_set_39 : decode cX7_set 39 = .ok (.iload_n 1, 1) := by decide +kernel
theorem dX7_set_40 : decode cX7_set 40 = .ok (.iaload, 1) := by decide +kernel
theorem dX7_set_41 : decode cX7_set 41 = .ok (.istore_n 3, 1) := by decide +kernel
theorem dX7_set_42 : decode cX7_set 42 = .ok (.aload_n 0, 1) := by decide +kernel
theorem dX7_set_43 : decode cX7_set 43 = .ok (.getfield 10, 3) := by decide +kernel
theorem dX7_set_46 : decode cX7_set 46 = .ok (.getfield 100, 3) := by decide +kernel
theorem dX7_set_49 : decode cX7_set 49 = .ok (.iload_n 1, 1) := by decide +kernel
theorem dX7_set_50 : decode cX7_set 50 = .ok (.iload_n 2, 1) := by decide +kernel
theorem dX7_set_51 : decode cX7_set 51 = .ok (.iastore, 1) := by decide +kernel
theorem dX7_set_52 : decode cX7_set 52 = .ok (.iload_n 3, 1) := by decide +kernel
theorem dX7_set_53 : decode cX7_set 53 = .ok (.ireturn, 1) := by decide +kernel
set_option maxRecDepth 20000 in
theorem ggX7_roomOf_X3_roomAt : GoodIn wsX7_roomOf wsX3_roomAt := goodIn_r _ [13, 14, 15, 67, 68, 69, 70, 71, 72, 73, 74, 75, 76] (by decide +kernel) (by decide +kernel)
set_option maxRecDepth 20000 in
theorem gX7_roomOf_X3_roomAt : GoodIn wsX7_roomOf (wsV RX7 56 RX3 yX3_roomAt wsX3_roomAt) := goodIn_app (goodIn_of _ (by decide +kernel)) ggX7_roomOf_X3_roomAt
set_option maxRecDepth 20000 in
theorem ggX7_roomOf_X5_density : GoodIn wsX7_roomOf wsX5_density := goodIn_r _ [20, 21, 22, 60, 61, 62, 63, 64, 65, 66] (by decide +kernel) (by decide +kernel)
set_option maxRecDepth 20000 in
theorem gX7_roomOf_X5_density : GoodIn wsX7_roomOf (wsV RX7 115 RX5 yX5_density wsX5_density) := goodIn_app (goodIn_of _ (by decide +kernel)) ggX7_roomOf_X5_density
set_option maxRecDepth 20000 in
theorem ggX7_roomOf_X7_levelOf : GoodIn wsX7_roomOf wsX7_levelOf := goodIn_r _ [26] (by decide +kernel) (by decide +kernel)
set_option maxRecDepth 20000 in
theorem gX7_roomOf_X7_levelOf : GoodIn wsX7_roomOf (va_wsS RX7 119 yX7_levelOf wsX7_levelOf) := goodIn_app (goodIn_of _ (by decide +kernel)) ggX7_roomOf_X7_levelOf
set_option maxRecDepth 20000 in
theorem ggX7_roomOf_X3_doorsOf : GoodIn wsX7_roomOf wsX3_doorsOf := goodIn_r _ [30, 31, 32, 33, 34, 35, 36, 37, 38, 67, 68, 69, 70, 71, 72, 73, 74, 75, 76, 77, 78, 79, 80, 81, 82, 83, 84, 85, 86] (by decide +kernel) (by decide +kernel)
set_option maxRecDepth 20000 in
theorem gX7_roomOf_X3_doorsOf : GoodIn wsX7_roomOf (wsV RX7 129 RX3 yX3_doorsOf wsX3_doorsOf) := goodIn_app (goodIn_of _ (by decide +kernel)) ggX7_roomOf_X3_doorsOf
set_option maxRecDepth 20000 in
theorem ggX7_roomOf_X4_soundsHeard : GoodIn wsX7_roomOf wsX4_soundsHeard := goodIn_r _ [43, 44, 45, 46, 47, 48, 49, 50, 51, 52, 53, 54, 87, 88, 89, 90, 91, 92, 93] (by decide +kernel) (by decide +kernel)
set_option maxRecDepth 20000 in
theorem gX7_roomOf_X4_soundsHeard : GoodIn wsX7_roomOf (wsV RX7 139 RX4 yX4_soundsHeard wsX4_soundsHeard) := goodIn_app (goodIn_of _ (by decide +kernel)) ggX7_roomOf_X4_soundsHeard
theorem dX7_roomOf_0 : decode cX7_roomOf 0 = .ok (.aload_n 0, 1) := by decide +kernel
theorem dX7_roomOf_1 : decode cX7_roomOf 1 = .ok (.getfield 10, 3) := by decide +kernel
theorem dX7_roomOf_4 : decode cX7_roomOf 4 = .ok (.iload_n 1, 1) := by decide +kernel
theorem dX7_roomOf_5 : decode cX7_roomOf 5 = .ok (.invokevirtual 56, 3) := by decide +kernel
theorem dX7_roomOf_8 : decode cX7_roomOf 8 = .ok (.astore_n 3, 1) := by decide +kernel
theorem dX7_roomOf_9 : decode cX7_roomOf 9 = .ok (.aload_n 3, 1) := by decide +kernel
theorem dX7_roomOf_10 : decode cX7_roomOf 10 = .ok (.ifnonnull 5, 3) := by decide +kernel
theorem dX7_roomOf_13 : decode cX7_roomOf 13 = .ok (.iconst (-1), 1) := by decide +kernel
theorem dX7_roomOf_14 : decode cX7_roomOf 14 = .ok (.ireturn, 1) := by decide +kernel
theorem dX7_roomOf_15 : decode cX7_roomOf 15 = .ok (.iload_n 2, 1) := by decide +kernel
theorem dX7_roomOf_16 : decode cX7_roomOf 16 = .ok (.tableswitch 130 0 8 #[52, 57, 62, 67, 72, 92, 97, 102, 111], 52) := by decide +kernel
theorem dX7_roomOf_68 : decode cX7_roomOf 68 = .ok (.aload_n 3, 1) := by decide +kernel
theorem dX7_roomOf_69 : decode cX7_roomOf 69 = .ok (.getfield 104, 3) := by decide +kernel
theorem dX7_roomOf_72 : decode cX7_roomOf 72 = .ok (.ireturn, 1) := by decide +kernel
theorem dX7_roomOf_73 : decode cX7_roomOf 73 = .ok (.aload_n 3, 1) := by decide +kernel
theorem dX7_roomOf_74 : decode cX7_roomOf 74 = .ok (.getfield 109, 3) := by decide +kernel
theorem dX7_roomOf_77 : decode cX7_roomOf 77 = .ok (.ireturn, 1) := by decide +kernel
theorem dX7_roomOf_78 : decode cX7_roomOf 78 = .ok (.aload_n 3, 1) := by decide +kernel
theorem dX7_roomOf_79 : decode cX7_roomOf 79 = .ok (.getfield 112, 3) := by decide +kernel
theorem dX7_roomOf_82 : decode cX7_roomOf 82 = .ok (.ireturn, 1) := by decide +kernel
theorem dX7_roomOf_83 : decode cX7_roomOf 83 = .ok (.aload_n 3, 1) := by decide +kernel
theorem dX7_roomOf_84 : decode cX7_roomOf 84 = .ok (.invokevirtual 115, 3) := by decide +kernel
theorem dX7_roomOf_87 : decode cX7_roomOf 87 = .ok (.ireturn, 1) := by decide +kernel
theorem dX7_roomOf_88 : decode cX7_roomOf 88 = .ok (.aload_n 3, 1) := by decide +kernel
theorem dX7_roomOf_89 : decode cX7_roomOf 89 = .ok (.getfield 112, 3) := by decide +kernel
theorem dX7_roomOf_92 : decode cX7_roomOf 92 = .ok (.ifCond .le 13, 3) := by decide +kernel
theorem dX7_roomOf_95 : decode cX7_roomOf 95 = .ok (.aload_n 3, 1) := by decide +kernel
theorem dX7_roomOf_96 : decode cX7_roomOf 96 = .ok (.getfield 112, 3) := by decide +kernel
theorem dX7_roomOf_99 : decode cX7_roomOf 99 = .ok (.invokestatic 119, 3) := by decide +kernel
theorem dX7_roomOf_102 : decode cX7_roomOf 102 = .ok (.goto 5, 3) := by decide +kernel
theorem dX7_roomOf_105 : decode cX7_roomOf 105 = .ok (.bipush (-4), 2) := by decide +kernel
theorem dX7_roomOf_107 : decode cX7_roomOf 107 = .ok (.ireturn, 1) := by decide +kernel
theorem dX7_roomOf_108 : decode cX7_roomOf 108 = .ok (.aload_n 3, 1) := by decide +kernel
theorem dX7_roomOf_109 : decode cX7_roomOf 109 = .ok (.getfield 123, 3) := by decide +kernel
theorem dX7_roomOf_112 : decode cX7_roomOf 112 = .ok (.ireturn, 1) := by decide +kernel
theorem dX7_roomOf_113 : decode cX7_roomOf 113 = .ok (.aload_n 3, 1) := by decide +kernel
theorem dX7_roomOf_114 : decode cX7_roomOf 114 = .ok (.getfield 126, 3) := by decide +kernel
theorem dX7_roomOf_117 : decode cX7_roomOf 117 = .ok (.ireturn, 1) := by decide +kernel
theorem dX7_roomOf_118 : decode cX7_roomOf 118 = .ok (.aload_n 0, 1) := by decide +kernel
theorem dX7_roomOf_119 : decode cX7_roomOf 119 = .ok (.getfield 10, 3) := by decide +kernel
theorem dX7_roomOf_122 : decode cX7_roomOf 122 = .ok (.iload_n 1, 1) := by decide +kernel
theorem dX7_roomOf_123 : decode cX7_roomOf 123 = .ok (.invokevirtual 129, 3) := by decide +kernel
theorem dX7_roomOf_126 : decode cX7_roomOf 126 = .ok (.ireturn, 1) := by decide +kernel
theorem dX7_roomOf_127 : decode cX7_roomOf 127 = .ok (.aload_n 0, 1) := by decide +kernel
theorem dX7_roomOf_128 : decode cX7_roomOf 128 = .ok (.getfield 10, 3) := by decide +kernel
theorem dX7_roomOf_131 : decode cX7_roomOf 131 = .ok (.getfield 132, 3) := by decide +kernel
theorem dX7_roomOf_134 : decode cX7_roomOf 134 = .ok (.iload_n 1, 1) := by decide +kernel
theorem dX7_roomOf_135 : decode cX7_roomOf 135 = .ok (.aload_n 0, 1) := by decide +kernel
theorem dX7_roomOf_136 : decode cX7_roomOf 136 = .ok (.getfield 10, 3) := by decide +kernel
theorem dX7_roomOf_139 : decode cX7_roomOf 139 = .ok (.getfield 136, 3) := by decide +kernel
theorem dX7_roomOf_142 : decode cX7_roomOf 142 = .ok (.invokevirtual 139, 3) := by decide +kernel
theorem dX7_roomOf_145 : decode cX7_roomOf 145 = .ok (.ireturn, 1) := by decide +kernel
theorem dX7_roomOf_146 : decode cX7_roomOf 146 = .ok (.iconst (-1), 1) := by decide +kernel
theorem dX7_roomOf_147 : decode cX7_roomOf 147 = .ok (.ireturn, 1) := by decide +kernel
set_option maxRecDepth 20000 in
theorem ggX7_doorOf_X3_doorAt : GoodIn wsX7_doorOf wsX3_doorAt := goodIn_r _ [14, 15, 16, 59, 60, 61, 62, 63, 64, 65, 66, 67, 68] (by decide +kernel) (by decide +kernel)
set_option maxRecDepth 20000 in
theorem gX7_doorOf_X3_doorAt : GoodIn wsX7_doorOf (wsV RX7 75 RX3 yX3_doorAt wsX3_doorAt) := goodIn_app (goodIn_of _ (by decide +kernel)) ggX7_doorOf_X3_doorAt
set_option maxRecDepth 20000 in
theorem ggX7_doorOf_X0_energyOnItsWay : GoodIn wsX7_doorOf wsX0_energyOnItsWay := goodIn_r _ [21, 22, 49, 50, 51, 52, 53, 54, 55, 56, 57, 58] (by decide +kernel) (by decide +kernel)
set_option maxRecDepth 20000 in
theorem gX7_doorOf_X0_energyOnItsWay : GoodIn wsX7_doorOf (wsV RX7 156 RX0 yX0_energyOnItsWay wsX0_energyOnItsWay) := goodIn_app (goodIn_of _ (by decide +kernel)) ggX7_doorOf_X0_energyOnItsWay
set_option maxRecDepth 20000 in
theorem ggX7_doorOf_X3_wouldGo : GoodIn wsX7_doorOf wsX3_wouldGo := goodIn_r _ [26, 27, 28, 29, 30, 13, 31, 32, 33, 34, 35, 36, 37, 38, 39, 40, 41, 42, 43, 49, 50, 51, 52, 53, 54, 55, 56, 57, 58, 59, 60, 61, 62, 63, 64, 65, 66, 67, 68, 69, 70, 71, 72, 73, 74, 75] (by decide +kernel) (by decide +kernel)
set_option maxRecDepth 20000 in
theorem gX7_doorOf_X3_wouldGo : GoodIn wsX7_doorOf (wsV RX7 162 RX3 yX3_wouldGo wsX3_wouldGo) := goodIn_app (goodIn_of _ (by decide +kernel)) ggX7_doorOf_X3_wouldGo
theorem dX7_doorOf_0 : decode cX7_doorOf 0 = .ok (.aload_n 0, 1) := by decide +kernel
theorem dX7_doorOf_1 : decode cX7_doorOf 1 = .ok (.getfield 10, 3) := by decide +kernel
theorem dX7_doorOf_4 : decode cX7_doorOf 4 = .ok (.iload_n 1, 1) := by decide +kernel
theorem dX7_doorOf_5 : decode cX7_doorOf 5 = .ok (.invokevirtual 75, 3) := by decide +kernel
theorem dX7_doorOf_8 : decode cX7_doorOf 8 = .ok (.astore_n 3, 1) := by decide +kernel
theorem dX7_doorOf_9 : decode cX7_doorOf 9 = .ok (.aload_n 3, 1) := by decide +kernel
theorem dX7_doorOf_10 : decode cX7_doorOf 10 = .ok (.ifnonnull 5, 3) := by decide +kernel
theorem dX7_doorOf_13 : decode cX7_doorOf 13 = .ok (.iconst (-1), 1) := by decide +kernel
theorem dX7_doorOf_14 : decode cX7_doorOf 14 = .ok (.ireturn, 1) := by decide +kernel
theorem dX7_doorOf_15 : decode cX7_doorOf 15 = .ok (.iload_n 2, 1) := by decide +kernel
theorem dX7_doorOf_16 : decode cX7_doorOf 16 = .ok (.tableswitch 159 0 12 #[68, 75, 82, 87, 92, 97, 102, 107, 120, 125, 132, 139, 149], 68) := by decide +kernel
theorem dX7_doorOf_84 : decode cX7_doorOf 84 = .ok (.aload_n 3, 1) := by decide +kernel
theorem dX7_doorOf_85 : decode cX7_doorOf 85 = .ok (.getfield 144, 3) := by decide +kernel
theorem dX7_doorOf_88 : decode cX7_doorOf 88 = .ok (.iconst 0, 1) := by decide +kernel
theorem dX7_doorOf_89 : decode cX7_doorOf 89 = .ok (.iaload, 1) := by decide +kernel
theorem dX7_doorOf_90 : decode cX7_doorOf 90 = .ok (.ireturn, 1) := by decide +kernel
theorem dX7_doorOf_91 : decode cX7_doorOf 91 = .ok (.aload_n 3, 1) := by decide +kernel
theorem dX7_doorOf_92 : decode cX7_doorOf 92 = .ok (.getfield 144, 3) := by decide +kernel
theorem dX7_doorOf_95 : decode cX7_doorOf 95 = .ok (.iconst 1, 1) := by decide +kernel
theorem dX7_doorOf_96 : decode cX7_doorOf 96 = .ok (.iaload, 1) := by decide +kernel
theorem dX7_doorOf_97 : decode cX7_doorOf 97 = .ok (.ireturn, 1) := by decide +kernel
theorem dX7_doorOf_98 : decode cX7_doorOf 98 = .ok (.aload_n 3, 1) := by decide +kernel
theorem dX7_doorOf_99 : decode cX7_doorOf 99 = .ok (.getfield 147, 3) := by decide +kernel
theorem dX7_doorOf_102 : decode cX7_doorOf 102 = .ok (.ireturn, 1) := by decide +kernel
theorem dX7_doorOf_103 : decode cX7_doorOf 103 = .ok (.aload_n 3, 1) := by decide +kernel
theorem dX7_doorOf_104 : decode cX7_doorOf 104 = .ok (.getfield 150, 3) := by decide +kernel
theorem dX7_doorOf_107 : decode cX7_doorOf 107 = .ok (.ireturn, 1) := by decide +kernel
theorem dX7_doorOf_108 : decode cX7_doorOf 108 = .ok (.aload_n 3, 1) := by decide +kernel
theorem dX7_doorOf_109 : decode cX7_doorOf 109 = .ok (.getfield 153, 3) := by decide +kernel
theorem dX7_doorOf_112 : decode cX7_doorOf 112 = .ok (.ireturn, 1) := by decide +kernel
theorem dX7_doorOf_113 : decode cX7_doorOf 113 = .ok (.aload_n 3, 1) := by decide +kernel
theorem dX7_doorOf_114 : decode cX7_doorOf 114 = .ok (.getfield 96, 3) := by decide +kernel
theorem dX7_doorOf_117 : decode cX7_doorOf 117 = .ok (.ireturn, 1) := by decide +kernel
theorem dX7_doorOf_118 : decode cX7_doorOf 118 = .ok (.aload_n 3, 1) := by decide +kernel
theorem dX7_doorOf_119 : decode cX7_doorOf 119 = .ok (.getfield 83, 3) := by decide +kernel
theorem dX7_doorOf_122 : decode cX7_doorOf 122 = .ok (.ireturn, 1) := by decide +kernel
theorem dX7_doorOf_123 : decode cX7_doorOf 123 = .ok (.aload_n 3, 1) := by decide +kernel
theorem dX7_doorOf_124 : decode cX7_doorOf 124 = .ok (.getfield 92, 3) := by decide +kernel
theorem dX7_doorOf_127 : decode cX7_doorOf 127 = .ok (.ifCond .eq 7, 3) := by decide +kernel
theorem dX7_doorOf_130 : decode cX7_doorOf 130 = .ok (.iconst 1, 1) := by decide +kernel
theorem dX7_doorOf_131 : decode cX7_doorOf 131 = .ok (.goto 4, 3) := by decide +kernel
theorem dX7_doorOf_134 : decode cX7_doorOf 134 = .ok (.iconst 0, 1) := by decide +kernel
theorem dX7_doorOf_135 : decode cX7_doorOf 135 = .ok (.ireturn, 1) := by decide +kernel
theorem dX7_doorOf_136 : decode cX7_doorOf 136 = .ok (.aload_n 3, 1) := by decide +kernel
theorem dX7_doorOf_137 : decode cX7_doorOf 137 = .ok (.invokevirtual 156, 3) := by decide +kernel
theorem dX7_doorOf_140 : decode cX7_doorOf 140 = .ok (.ireturn, 1) := by decide +kernel
theorem dX7_doorOf_141 : decode cX7_doorOf 141 = .ok (.aload_n 3, 1) := by decide +kernel
theorem dX7_doorOf_142 : decode cX7_doorOf 142 = .ok (.getfield 159, 3) := by decide +kernel
theorem dX7_doorOf_145 : decode cX7_doorOf 145 = .ok (.iconst 0, 1) := by decide +kernel
theorem dX7_doorOf_146 : decode cX7_doorOf 146 = .ok (.iaload, 1) := by decide +kernel
theorem dX7_doorOf_147 : decode cX7_doorOf 147 = .ok (.ireturn, 1) := by decide +kernel
theorem dX7_doorOf_148 : decode cX7_doorOf 148 = .ok (.aload_n 3, 1) := by decide +kernel
theorem dX7_doorOf_149 : decode cX7_doorOf 149 = .ok (.getfield 159, 3) := by decide +kernel
theorem dX7_doorOf_152 : decode cX7_doorOf 152 = .ok (.iconst 1, 1) := by decide +kernel
theorem dX7_doorOf_153 : decode cX7_doorOf 153 = .ok (.iaload, 1) := by decide +kernel
theorem dX7_doorOf_154 : decode cX7_doorOf 154 = .ok (.ireturn, 1) := by decide +kernel
theorem dX7_doorOf_155 : decode cX7_doorOf 155 = .ok (.aload_n 0, 1) := by decide +kernel
theorem dX7_doorOf_156 : decode cX7_doorOf 156 = .ok (.getfield 10, 3) := by decide +kernel
theorem dX7_doorOf_159 : decode cX7_doorOf 159 = .ok (.aload_n 3, 1) := by decide +kernel
theorem dX7_doorOf_160 : decode cX7_doorOf 160 = .ok (.iconst 0, 1) := by decide +kernel
theorem dX7_doorOf_161 : decode cX7_doorOf 161 = .ok (.invokevirtual 162, 3) := by decide +kernel
theorem dX7_doorOf_164 : decode cX7_doorOf 164 = .ok (.ireturn, 1) := by decide +kernel
theorem dX7_doorOf_165 : decode cX7_doorOf 165 = .ok (.aload_n 0, 1) := by decide +kernel
theorem dX7_doorOf_166 : decode cX7_doorOf 166 = .ok (.getfield 10, 3) := by decide +kernel
theorem dX7_doorOf_169 : decode cX7_doorOf 169 = .ok (.aload_n 3, 1) := by decide +kernel
theorem dX7_doorOf_170 : decode cX7_doorOf 170 = .ok (.iconst 1, 1) := by decide +kernel
theorem dX7_doorOf_171 : decode cX7_doorOf 171 = .ok (.invokevirtual 162, 3) := by decide +kernel
theorem dX7_doorOf_174 : decode cX7_doorOf 174 = .ok (.ireturn, 1) := by decide +kernel
theorem dX7_doorOf_175 : decode cX7_doorOf 175 = .ok (.iconst (-1), 1) := by decide +kernel
theorem dX7_doorOf_176 : decode cX7_doorOf 176 = .ok (.ireturn, 1) := by decide +kernel
set_option maxRecDepth 20000 in
theorem ggX7_count_X3_energyInRooms : GoodIn wsX7_count wsX3_energyInRooms := goodIn_r _ [19, 20, 21, 48, 49, 50, 51, 52, 53, 54, 55, 56, 57, 68, 69, 70, 71, 72, 73, 74] (by decide +kernel) (by decide +kernel)
set_option maxRecDepth 20000 in
theorem gX7_count_X3_energyInRooms : GoodIn wsX7_count (wsV RX7 168 RX3 yX3_energyInRooms wsX3_energyInRooms) := goodIn_app (goodIn_of _ (by decide +kernel)) ggX7_count_X3_energyInRooms
set_option maxRecDepth 20000 in
theorem ggX7_count_X3_energyOnItsWay : GoodIn wsX7_count wsX3_energyOnItsWay := goodIn_r _ [25, 26, 27, 28, 29, 30, 31, 32, 48, 49, 50, 51, 52, 53, 54, 55, 56, 57, 75, 76, 77, 78, 79, 80, 81, 82, 83, 84] (by decide +kernel) (by decide +kernel)
set_option maxRecDepth 20000 in
theorem gX7_count_X3_energyOnItsWay : GoodIn wsX7_count (wsV RX7 171 RX3 yX3_energyOnItsWay wsX3_energyOnItsWay) := goodIn_app (goodIn_of _ (by decide +kernel)) ggX7_count_X3_energyOnItsWay
set_option maxRecDepth 20000 in
theorem ggX7_count_X3_energyAbsorbed : GoodIn wsX7_count wsX3_energyAbsorbed := goodIn_r _ [36, 20, 37, 48, 49, 50, 51, 52, 53, 54, 55, 56, 57, 68, 69, 70, 71, 72, 73, 74] (by decide +kernel) (by decide +kernel)
set_option maxRecDepth 20000 in
theorem gX7_count_X3_energyAbsorbed : GoodIn wsX7_count (wsV RX7 172 RX3 yX3_energyAbsorbed wsX3_energyAbsorbed) := goodIn_app (goodIn_of _ (by decide +kernel)) ggX7_count_X3_energyAbsorbed
set_option maxRecDepth 20000 in
theorem ggX7_count_X3_energyGiven : GoodIn wsX7_count wsX3_energyGiven := goodIn_r _ [41, 20, 42, 48, 49, 50, 51, 52, 53, 54, 55, 56, 57, 68, 69, 70, 71, 72, 73, 74] (by decide +kernel) (by decide +kernel)
set_option maxRecDepth 20000 in
theorem gX7_count_X3_energyGiven : GoodIn wsX7_count (wsV RX7 178 RX3 yX3_energyGiven wsX3_energyGiven) := goodIn_app (goodIn_of _ (by decide +kernel)) ggX7_count_X3_energyGiven
theorem dX7_count_0 : decode cX7_count 0 = .ok (.iload_n 1, 1) := by decide +kernel
theorem dX7_count_1 : decode cX7_count 1 = .ok (.tableswitch 230 0 21 #[103, 111, 119, 130, 138, 146, 154, 162, 170, 178, 186, 194, 202, 230, 230, 230, 230, 230, 230, 230, 210, 220], 103) := by decide +kernel
theorem dX7_count_104 : decode cX7_count 104 = .ok (.aload_n 0, 1) := by decide +kernel
theorem dX7_count_105 : decode cX7_count 105 = .ok (.getfield 10, 3) := by decide +kernel
theorem dX7_count_108 : decode cX7_count 108 = .ok (.getfield 44, 3) := by decide +kernel
theorem dX7_count_111 : decode cX7_count 111 = .ok (.ireturn, 1) := by decide +kernel
theorem dX7_count_112 : decode cX7_count 112 = .ok (.aload_n 0, 1) := by decide +kernel
theorem dX7_count_113 : decode cX7_count 113 = .ok (.getfield 10, 3) := by decide +kernel
theorem dX7_count_116 : decode cX7_count 116 = .ok (.getfield 68, 3) := by decide +kernel
theorem dX7_count_119 : decode cX7_count 119 = .ok (.ireturn, 1) := by decide +kernel
theorem dX7_count_120 : decode cX7_count 120 = .ok (.aload_n 0, 1) := by decide +kernel
theorem dX7_count_121 : decode cX7_count 121 = .ok (.getfield 10, 3) := by decide +kernel
theorem dX7_count_124 : decode cX7_count 124 = .ok (.getfield 132, 3) := by decide +kernel
theorem dX7_count_127 : decode cX7_count 127 = .ok (.getfield 165, 3) := by decide +kernel
theorem dX7_count_130 : decode cX7_count 130 = .ok (.ireturn, 1) := by decide +kernel
theorem dX7_count_131 : decode cX7_count 131 = .ok (.aload_n 0, 1) := by decide +kernel
theorem dX7_count_132 : decode cX7_count 132 = .ok (.getfield 10, 3) := by decide +kernel
theorem dX7_count_135 : decode cX7_count 135 = .ok (.getfield 136, 3) := by decide +kernel
theorem dX7_count_138 : decode cX7_count 138 = .ok (.ireturn, 1) := by decide +kernel
theorem dX7_count_139 : decode cX7_count 139 = .ok (.aload_n 0, 1) := by decide +kernel
theorem dX7_count_140 : decode cX7_count 140 = .ok (.getfield 10, 3) := by decide +kernel
theorem dX7_count_143 : decode cX7_count 143 = .ok (.invokevirtual 168, 3) := by decide +kernel
theorem dX7_count_146 : decode cX7_count 146 = .ok (.ireturn, 1) := by decide +kernel
theorem dX7_count_147 : decode cX7_count 147 = .ok (.aload_n 0, 1) := by decide +kernel
theorem dX7_count_148 : decode cX7_count 148 = .ok (.getfield 10, 3) := by decide +kernel
theorem dX7_count_151 : decode cX7_count 151 = .ok (.invokevirtual 171, 3) := by decide +kernel
theorem dX7_count_154 : decode cX7_count 154 = .ok (.ireturn, 1) := by decide +kernel
theorem dX7_count_155 : decode cX7_count 155 = .ok (.aload_n 0, 1) := by decide +kernel
theorem dX7_count_156 : decode cX7_count 156 = .ok (.getfield 10, 3) := by decide +kernel
theorem dX7_count_159 : decode cX7_count 159 = .ok (.invokevirtual 172, 3) := by decide +kernel
theorem dX7_count_162 : decode cX7_count 162 = .ok (.ireturn, 1) := by decide +kernel
theorem dX7_count_163 : decode cX7_count 163 = .ok (.aload_n 0, 1) := by decide +kernel
theorem dX7_count_164 : decode cX7_count 164 = .ok (.getfield 10, 3) := by decide +kernel
theorem dX7_count_167 : decode cX7_count 167 = .ok (.getfield 175, 3) := by decide +kernel
theorem dX7_count_170 : decode cX7_count 170 = .ok (.ireturn, 1) := by decide +kernel
theorem dX7_count_171 : decode cX7_count 171 = .ok (.aload_n 0, 1) := by decide +kernel
theorem dX7_count_172 : decode cX7_count 172 = .ok (.getfield 10, 3) := by decide +kernel
theorem dX7_count_175 : decode cX7_count 175 = .ok (.invokevirtual 178, 3) := by decide +kernel
theorem dX7_count_178 : decode cX7_count 178 = .ok (.ireturn, 1) := by decide +kernel
theorem dX7_count_179 : decode cX7_count 179 = .ok (.aload_n 0, 1) := by decide +kernel
theorem dX7_count_180 : decode cX7_count 180 = .ok (.getfield 10, 3) := by decide +kernel
theorem dX7_count_183 : decode cX7_count 183 = .ok (.getfield 181, 3) := by decide +kernel
theorem dX7_count_186 : decode cX7_count 186 = .ok (.ireturn, 1) := by decide +kernel
theorem dX7_count_187 : decode cX7_count 187 = .ok (.aload_n 0, 1) := by decide +kernel
theorem dX7_count_188 : decode cX7_count 188 = .ok (.getfield 10, 3) := by decide +kernel
theorem dX7_count_191 : decode cX7_count 191 = .ok (.getfield 184, 3) := by decide +kernel
theorem dX7_count_194 : decode cX7_count 194 = .ok (.ireturn, 1) := by decide +kernel
theorem dX7_count_195 : decode cX7_count 195 = .ok (.aload_n 0, 1) := by decide +kernel
theorem dX7_count_196 : decode cX7_count 196 = .ok (.getfield 22, 3) := by decide +kernel
theorem dX7_count_199 : decode cX7_count 199 = .ok (.getfield 187, 3) := by decide +kernel
theorem dX7_count_202 : decode cX7_count 202 = .ok (.ireturn, 1) := by decide +kernel
theorem dX7_count_203 : decode cX7_count 203 = .ok (.aload_n 0, 1) := by decide +kernel
theorem dX7_count_204 : decode cX7_count 204 = .ok (.getfield 29, 3) := by decide +kernel
theorem dX7_count_207 : decode cX7_count 207 = .ok (.getfield 188, 3) := by decide +kernel
theorem dX7_count_210 : decode cX7_count 210 = .ok (.ireturn, 1) := by decide +kernel
theorem dX7_count_211 : decode cX7_count 211 = .ok (.aload_n 0, 1) := by decide +kernel
theorem dX7_count_212 : decode cX7_count 212 = .ok (.getfield 10, 3) := by decide +kernel
theorem dX7_count_215 : decode cX7_count 215 = .ok (.getfield 100, 3) := by decide +kernel
theorem dX7_count_218 : decode cX7_count 218 = .ok (.iconst 0, 1) := by decide +kernel
theorem dX7_count_219 : decode cX7_count 219 = .ok (.iaload, 1) := by decide +kernel
theorem dX7_count_220 : decode cX7_count 220 = .ok (.ireturn, 1) := by decide +kernel
theorem dX7_count_221 : decode cX7_count 221 = .ok (.aload_n 0, 1) := by decide +kernel
theorem dX7_count_222 : decode cX7_count 222 = .ok (.getfield 10, 3) := by decide +kernel
theorem dX7_count_225 : decode cX7_count 225 = .ok (.getfield 100, 3) := by decide +kernel
theorem dX7_count_228 : decode cX7_count 228 = .ok (.iconst 1, 1) := by decide +kernel
theorem dX7_count_229 : decode cX7_count 229 = .ok (.iaload, 1) := by decide +kernel
theorem dX7_count_230 : decode cX7_count 230 = .ok (.ireturn, 1) := by decide +kernel
theorem dX7_count_231 : decode cX7_count 231 = .ok (.iconst (-1), 1) := by decide +kernel
theorem dX7_count_232 : decode cX7_count 232 = .ok (.ireturn, 1) := by decide +kernel
set_option maxRecDepth 20000 in
theorem ggX7_sound_X3_roomAt : GoodIn wsX7_sound wsX3_roomAt := goodIn_r _ [14, 15, 16, 120, 121, 122, 123, 124, 125, 126, 127, 128, 129] (by decide +kernel) (by decide +kernel)
set_option maxRecDepth 20000 in
theorem gX7_sound_X3_roomAt : GoodIn wsX7_sound (wsV RX7 56 RX3 yX3_roomAt wsX3_roomAt) := goodIn_app (goodIn_of _ (by decide +kernel)) ggX7_sound_X3_roomAt
set_option maxRecDepth 20000 in
theorem ggX7_sound_X7_isWithin : GoodIn wsX7_sound wsX7_isWithin := goodIn_r _ [20] (by decide +kernel) (by decide +kernel)
set_option maxRecDepth 20000 in
theorem gX7_sound_X7_isWithin : GoodIn wsX7_sound (va_wsS RX7 40 yX7_isWithin wsX7_isWithin) := goodIn_app (goodIn_of _ (by decide +kernel)) ggX7_sound_X7_isWithin
set_option maxRecDepth 20000 in
theorem ggX7_sound_X1_becomeSound : GoodIn wsX7_sound wsX1_becomeSound := goodIn_r _ [25, 26, 27, 28, 29, 30, 132, 133, 134, 135, 136] (by decide +kernel) (by decide +kernel)
set_option maxRecDepth 20000 in
theorem gX7_sound_X1_becomeSound : GoodIn wsX7_sound (wsV RX7 194 RX1 yX1_becomeSound wsX1_becomeSound) := goodIn_app (goodIn_of _ (by decide +kernel)) ggX7_sound_X1_becomeSound
set_option maxRecDepth 20000 in
theorem ggX7_sound_X4_isFull : GoodIn wsX7_sound wsX4_isFull := goodIn_r _ [35, 36, 37, 130, 131] (by decide +kernel) (by decide +kernel)
set_option maxRecDepth 20000 in
theorem gX7_sound_X4_isFull : GoodIn wsX7_sound (wsV RX7 198 RX4 yX4_isFull wsX4_isFull) := goodIn_app (goodIn_of _ (by decide +kernel)) ggX7_sound_X4_isFull
set_option maxRecDepth 20000 in
theorem ggX7_sound_X1_allEnergy : GoodIn wsX7_sound wsX1_allEnergy := goodIn_r _ [41, 26, 29, 30, 132, 133, 134, 135, 136] (by decide +kernel) (by decide +kernel)
set_option maxRecDepth 20000 in
theorem gX7_sound_X1_allEnergy : GoodIn wsX7_sound (wsV RX7 202 RX1 yX1_allEnergy wsX1_allEnergy) := goodIn_app (goodIn_of _ (by decide +kernel)) ggX7_sound_X1_allEnergy
set_option maxRecDepth 20000 in
theorem ggX7_sound_X2_record : GoodIn wsX7_sound wsX2_record := goodIn_r _ [46, 47, 48, 49, 50, 51, 45, 52, 53, 54, 55, 13, 56, 16, 57, 58, 59, 60, 61, 62, 63, 15, 64, 65, 66, 67, 68, 69, 70, 71, 72, 73, 74, 75, 76, 77, 78, 79, 80, 81, 82, 83, 84, 85, 86, 87, 88, 89, 90, 91, 92, 93, 94, 95, 96, 97, 98, 99, 34, 100, 36, 37, 101, 102, 103, 24, 104, 26, 28, 27, 29, 30, 137, 138, 120, 121, 122, 123, 124, 125, 126, 127, 128, 129, 139, 140, 141, 142, 143, 144, 145, 146, 147, 148, 149, 150, 151, 152, 153, 154, 155, 130, 131, 132, 133, 134, 135, 136] (by decide +kernel) (by decide +kernel)
set_option maxRecDepth 20000 in
theorem gX7_sound_X2_record : GoodIn wsX7_sound (wsV RX7 48 RX2 yX2_record wsX2_record) := goodIn_app (goodIn_of _ (by decide +kernel)) ggX7_sound_X2_record
set_option maxRecDepth 20000 in
theorem ggX7_sound_X3_take : GoodIn wsX7_sound wsX3_take := goodIn_r _ [108, 58, 67, 109, 110, 111, 34, 112, 36, 37, 113, 101, 102, 103, 24, 104, 26, 28, 27, 29, 30, 114, 39, 40, 41, 120, 121, 122, 123, 124, 125, 126, 127, 128, 129, 130, 131, 132, 133, 134, 135, 136] (by decide +kernel) (by decide +kernel)
set_option maxRecDepth 20000 in
theorem gX7_sound_X3_take : GoodIn wsX7_sound (wsV RX7 206 RX3 yX3_take wsX3_take) := goodIn_app (goodIn_of _ (by decide +kernel)) ggX7_sound_X3_take
theorem dX7_sound_0 : decode cX7_sound 0 = .ok (.aload_n 0, 1) := by decide +kernel
