theorem dX0_init_0 : decode cX0_init 0 = .ok (.aload_n 0, 1) := by decide +kernel
theorem dX0_init_1 : decode cX0_init 1 = .ok (.invokespecial 3, 3) := by decide +kernel
theorem dX0_init_4 : decode cX0_init 4 = .ok (.aload_n 0, 1) := by decide +kernel
theorem dX0_init_5 : decode cX0_init 5 = .ok (.iconst 2, 1) := by decide +kernel
theorem dX0_init_6 : decode cX0_init 6 = .ok (.newarray .int, 2) := by decide +kernel
theorem dX0_init_8 : decode cX0_init 8 = .ok (.putfield 9, 3) := by decide +kernel
theorem dX0_init_11 : decode cX0_init 11 = .ok (.aload_n 0, 1) := by decide +kernel
theorem dX0_init_12 : decode cX0_init 12 = .ok (.iconst 2, 1) := by decide +kernel
theorem dX0_init_13 : decode cX0_init 13 = .ok (.newarray .int, 2) := by decide +kernel
theorem dX0_init_15 : decode cX0_init 15 = .ok (.putfield 15, 3) := by decide +kernel
theorem dX0_init_18 : decode cX0_init 18 = .ok (.aload_n 0, 1) := by decide +kernel
theorem dX0_init_19 : decode cX0_init 19 = .ok (.iconst 2, 1) := by decide +kernel
theorem dX0_init_20 : decode cX0_init 20 = .ok (.newarray .int, 2) := by decide +kernel
theorem dX0_init_22 : decode cX0_init 22 = .ok (.putfield 18, 3) := by decide +kernel
theorem dX0_init_25 : decode cX0_init 25 = .ok (.aload_n 0, 1) := by decide +kernel
theorem dX0_init_26 : decode cX0_init 26 = .ok (.bipush 12, 2) := by decide +kernel
theorem dX0_init_28 : decode cX0_init 28 = .ok (.newarray .int, 2) := by decide +kernel
theorem dX0_init_30 : decode cX0_init 30 = .ok (.putfield 21, 3) := by decide +kernel
theorem dX0_init_33 : decode cX0_init 33 = .ok (.return_, 1) := by decide +kernel
theorem dX0_begin_0 : decode cX0_begin 0 = .ok (.aload_n 0, 1) := by decide +kernel
theorem dX0_begin_1 : decode cX0_begin 1 = .ok (.getfield 9, 3) := by decide +kernel
theorem dX0_begin_4 : decode cX0_begin 4 = .ok (.iconst 0, 1) := by decide +kernel
theorem dX0_begin_5 : decode cX0_begin 5 = .ok (.iload_n 1, 1) := by decide +kernel
theorem dX0_begin_6 : decode cX0_begin 6 = .ok (.iastore, 1) := by decide +kernel
theorem dX0_begin_7 : decode cX0_begin 7 = .ok (.aload_n 0, 1) := by decide +kernel
theorem dX0_begin_8 : decode cX0_begin 8 = .ok (.getfield 9, 3) := by decide +kernel
theorem dX0_begin_11 : decode cX0_begin 11 = .ok (.iconst 1, 1) := by decide +kernel
theorem dX0_begin_12 : decode cX0_begin 12 = .ok (.iload_n 2, 1) := by decide +kernel
theorem dX0_begin_13 : decode cX0_begin 13 = .ok (.iastore, 1) := by decide +kernel
theorem dX0_begin_14 : decode cX0_begin 14 = .ok (.aload_n 0, 1) := by decide +kernel
theorem dX0_begin_15 : decode cX0_begin 15 = .ok (.iload_n 3, 1) := by decide +kernel
theorem dX0_begin_16 : decode cX0_begin 16 = .ok (.putfield 24, 3) := by decide +kernel
theorem dX0_begin_19 : decode cX0_begin 19 = .ok (.aload_n 0, 1) := by decide +kernel
theorem dX0_begin_20 : decode cX0_begin 20 = .ok (.iload 4, 2) := by decide +kernel
theorem dX0_begin_22 : decode cX0_begin 22 = .ok (.putfield 28, 3) := by decide +kernel
theorem dX0_begin_25 : decode cX0_begin 25 = .ok (.aload_n 0, 1) := by decide +kernel
theorem dX0_begin_26 : decode cX0_begin 26 = .ok (.iload 5, 2) := by decide +kernel
theorem dX0_begin_28 : decode cX0_begin 28 = .ok (.putfield 31, 3) := by decide +kernel
theorem dX0_begin_31 : decode cX0_begin 31 = .ok (.return_, 1) := by decide +kernel
theorem dX0_copyFrom_0 : decode cX0_copyFrom 0 = .ok (.aload_n 0, 1) := by decide +kernel
theorem dX0_copyFrom_1 : decode cX0_copyFrom 1 = .ok (.aload_n 1, 1) := by decide +kernel
theorem dX0_copyFrom_2 : decode cX0_copyFrom 2 = .ok (.getfield 24, 3) := by decide +kernel
theorem dX0_copyFrom_5 : decode cX0_copyFrom 5 = .ok (.putfield 24, 3) := by decide +kernel
theorem dX0_copyFrom_8 : decode cX0_copyFrom 8 = .ok (.aload_n 0, 1) := by decide +kernel
theorem dX0_copyFrom_9 : decode cX0_copyFrom 9 = .ok (.aload_n 1, 1) := by decide +kernel
theorem dX0_copyFrom_10 : decode cX0_copyFrom 10 = .ok (.getfield 28, 3) := by decide +kernel
theorem dX0_copyFrom_13 : decode cX0_copyFrom 13 = .ok (.putfield 28, 3) := by decide +kernel
theorem dX0_copyFrom_16 : decode cX0_copyFrom 16 = .ok (.aload_n 0, 1) := by decide +kernel
theorem dX0_copyFrom_17 : decode cX0_copyFrom 17 = .ok (.aload_n 1, 1) := by decide +kernel
theorem dX0_copyFrom_18 : decode cX0_copyFrom 18 = .ok (.getfield 31, 3) := by decide +kernel
theorem dX0_copyFrom_21 : decode cX0_copyFrom 21 = .ok (.putfield 31, 3) := by decide +kernel
theorem dX0_copyFrom_24 : decode cX0_copyFrom 24 = .ok (.aload_n 0, 1) := by decide +kernel
theorem dX0_copyFrom_25 : decode cX0_copyFrom 25 = .ok (.aload_n 1, 1) := by decide +kernel
theorem dX0_copyFrom_26 : decode cX0_copyFrom 26 = .ok (.getfield 34, 3) := by decide +kernel
theorem dX0_copyFrom_29 : decode cX0_copyFrom 29 = .ok (.putfield 34, 3) := by decide +kernel
theorem dX0_copyFrom_32 : decode cX0_copyFrom 32 = .ok (.aload_n 0, 1) := by decide +kernel
theorem dX0_copyFrom_33 : decode cX0_copyFrom 33 = .ok (.aload_n 1, 1) := by decide +kernel
theorem dX0_copyFrom_34 : decode cX0_copyFrom 34 = .ok (.getfield 37, 3) := by decide +kernel
theorem dX0_copyFrom_37 : decode cX0_copyFrom 37 = .ok (.putfield 37, 3) := by decide +kernel
theorem dX0_copyFrom_40 : decode cX0_copyFrom 40 = .ok (.aload_n 0, 1) := by decide +kernel
theorem dX0_copyFrom_41 : decode cX0_copyFrom 41 = .ok (.aload_n 1, 1) := by decide +kernel
theorem dX0_copyFrom_42 : decode cX0_copyFrom 42 = .ok (.getfield 40, 3) := by decide +kernel
theorem dX0_copyFrom_45 : decode cX0_copyFrom 45 = .ok (.putfield 40, 3) := by decide +kernel
theorem dX0_copyFrom_48 : decode cX0_copyFrom 48 = .ok (.aload_n 1, 1) := by decide +kernel
theorem dX0_copyFrom_49 : decode cX0_copyFrom 49 = .ok (.getfield 9, 3) := by decide +kernel
theorem dX0_copyFrom_52 : decode cX0_copyFrom 52 = .ok (.iconst 0, 1) := by decide +kernel
theorem dX0_copyFrom_53 : decode cX0_copyFrom 53 = .ok (.aload_n 0, 1) := by decide +kernel
theorem dX0_copyFrom_54 : decode cX0_copyFrom 54 = .ok (.getfield 9, 3) := by decide +kernel
theorem dX0_copyFrom_57 : decode cX0_copyFrom 57 = .ok (.iconst 0, 1) := by decide +kernel
theorem dX0_copyFrom_58 : decode cX0_copyFrom 58 = .ok (.iconst 2, 1) := by decide +kernel
theorem dX0_copyFrom_59 : decode cX0_copyFrom 59 = .ok (.invokestatic 44, 3) := by decide +kernel
theorem dX0_copyFrom_62 : decode cX0_copyFrom 62 = .ok (.aload_n 1, 1) := by decide +kernel
theorem dX0_copyFrom_63 : decode cX0_copyFrom 63 = .ok (.getfield 15, 3) := by decide +kernel
theorem dX0_copyFrom_66 : decode cX0_copyFrom 66 = .ok (.iconst 0, 1) := by decide +kernel
theorem dX0_copyFrom_67 : decode cX0_copyFrom 67 = .ok (.aload_n 0, 1) := by decide +kernel
theorem dX0_copyFrom_68 : decode cX0_copyFrom 68 = .ok (.getfield 15, 3) := by decide +kernel
theorem dX0_copyFrom_71 : decode cX0_copyFrom 71 = .ok (.iconst 0, 1) := by decide +kernel
theorem dX0_copyFrom_72 : decode cX0_copyFrom 72 = .ok (.iconst 2, 1) := by decide +kernel
theorem dX0_copyFrom_73 : decode cX0_copyFrom 73 = .ok (.invokestatic 44, 3) := by decide +kernel
theorem dX0_copyFrom_76 : decode cX0_copyFrom 76 = .ok (.aload_n 1, 1) := by decide +kernel
theorem dX0_copyFrom_77 : decode cX0_copyFrom 77 = .ok (.getfield 21, 3) := by decide +kernel
theorem dX0_copyFrom_80 : decode cX0_copyFrom 80 = .ok (.iconst 0, 1) := by decide +kernel
theorem dX0_copyFrom_81 : decode cX0_copyFrom 81 = .ok (.aload_n 0, 1) := by decide +kernel
theorem dX0_copyFrom_82 : decode cX0_copyFrom 82 = .ok (.getfield 21, 3) := by decide +kernel
theorem dX0_copyFrom_85 : decode cX0_copyFrom 85 = .ok (.iconst 0, 1) := by decide +kernel
theorem dX0_copyFrom_86 : decode cX0_copyFrom 86 = .ok (.bipush 12, 2) := by decide +kernel
theorem dX0_copyFrom_88 : decode cX0_copyFrom 88 = .ok (.invokestatic 44, 3) := by decide +kernel
theorem dX0_copyFrom_91 : decode cX0_copyFrom 91 = .ok (.return_, 1) := by decide +kernel
theorem dX0_isAt_0 : decode cX0_isAt 0 = .ok (.aload_n 0, 1) := by decide +kernel
theorem dX0_isAt_1 : decode cX0_isAt 1 = .ok (.getfield 24, 3) := by decide +kernel
theorem dX0_isAt_4 : decode cX0_isAt 4 = .ok (.ifCond .le 27, 3) := by decide +kernel
theorem dX0_isAt_7 : decode cX0_isAt 7 = .ok (.aload_n 0, 1) := by decide +kernel
theorem dX0_isAt_8 : decode cX0_isAt 8 = .ok (.getfield 9, 3) := by decide +kernel
theorem dX0_isAt_11 : decode cX0_isAt 11 = .ok (.iconst 0, 1) := by decide +kernel
theorem dX0_isAt_12 : decode cX0_isAt 12 = .ok (.iaload, 1) := by decide +kernel
theorem dX0_isAt_13 : decode cX0_isAt 13 = .ok (.iload_n 1, 1) := by decide +kernel
theorem dX0_isAt_14 : decode cX0_isAt 14 = .ok (.if_icmp .eq 13, 3) := by decide +kernel
theorem dX0_isAt_17 : decode cX0_isAt 17 = .ok (.aload_n 0, 1) := by decide +kernel
theorem dX0_isAt_18 : decode cX0_isAt 18 = .ok (.getfield 9, 3) := by decide +kernel
theorem dX0_isAt_21 : decode cX0_isAt 21 = .ok (.iconst 1, 1) := by decide +kernel
theorem dX0_isAt_22 : decode cX0_isAt 22 = .ok (.iaload, 1) := by decide +kernel
theorem dX0_isAt_23 : decode cX0_isAt 23 = .ok (.iload_n 1, 1) := by decide +kernel
theorem dX0_isAt_24 : decode cX0_isAt 24 = .ok (.if_icmp .ne 7, 3) := by decide +kernel
theorem dX0_isAt_27 : decode cX0_isAt 27 = .ok (.iconst 1, 1) := by decide +kernel
theorem dX0_isAt_28 : decode cX0_isAt 28 = .ok (.goto 4, 3) := by decide +kernel
theorem dX0_isAt_31 : decode cX0_isAt 31 = .ok (.iconst 0, 1) := by decide +kernel
theorem dX0_isAt_32 : decode cX0_isAt 32 = .ok (.ireturn, 1) := by decide +kernel
theorem dX0_aimAt_0 : decode cX0_aimAt 0 = .ok (.aload_n 0, 1) := by decide +kernel
theorem dX0_aimAt_1 : decode cX0_aimAt 1 = .ok (.getfield 40, 3) := by decide +kernel
theorem dX0_aimAt_4 : decode cX0_aimAt 4 = .ok (.ifCond .ne 8, 3) := by decide +kernel
theorem dX0_aimAt_7 : decode cX0_aimAt 7 = .ok (.aload_n 0, 1) := by decide +kernel
theorem dX0_aimAt_8 : decode cX0_aimAt 8 = .ok (.iload_n 1, 1) := by decide +kernel
theorem dX0_aimAt_9 : decode cX0_aimAt 9 = .ok (.putfield 37, 3) := by decide +kernel
theorem dX0_aimAt_12 : decode cX0_aimAt 12 = .ok (.return_, 1) := by decide +kernel
theorem dX0_move_0 : decode cX0_move 0 = .ok (.aload_n 0, 1) := by decide +kernel
theorem dX0_move_1 : decode cX0_move 1 = .ok (.getfield 34, 3) := by decide +kernel
theorem dX0_move_4 : decode cX0_move 4 = .ok (.aload_n 0, 1) := by decide +kernel
theorem dX0_move_5 : decode cX0_move 5 = .ok (.getfield 37, 3) := by decide +kernel
theorem dX0_move_8 : decode cX0_move 8 = .ok (.if_icmp .ge 26, 3) := by decide +kernel
theorem dX0_move_11 : decode cX0_move 11 = .ok (.aload_n 0, 1) := by decide +kernel
theorem dX0_move_12 : decode cX0_move 12 = .ok (.aload_n 0, 1) := by decide +kernel
theorem dX0_move_13 : decode cX0_move 13 = .ok (.getfield 37, 3) := by decide +kernel
theorem dX0_move_16 : decode cX0_move 16 = .ok (.aload_n 0, 1) := by decide +kernel
theorem dX0_move_17 : decode cX0_move 17 = .ok (.getfield 34, 3) := by decide +kernel
theorem dX0_move_20 : decode cX0_move 20 = .ok (.aload_n 0, 1) := by decide +kernel
theorem dX0_move_21 : decode cX0_move 21 = .ok (.getfield 28, 3) := by decide +kernel
theorem dX0_move_24 : decode cX0_move 24 = .ok (.iadd, 1) := by decide +kernel
theorem dX0_move_25 : decode cX0_move 25 = .ok (.invokestatic 50, 3) := by decide +kernel
theorem dX0_move_28 : decode cX0_move 28 = .ok (.putfield 34, 3) := by decide +kernel
theorem dX0_move_31 : decode cX0_move 31 = .ok (.goto 23, 3) := by decide +kernel
theorem dX0_move_34 : decode cX0_move 34 = .ok (.aload_n 0, 1) := by decide +kernel
theorem dX0_move_35 : decode cX0_move 35 = .ok (.aload_n 0, 1) := by decide +kernel
theorem dX0_move_36 : decode cX0_move 36 = .ok (.getfield 37, 3) := by decide +kernel
theorem dX0_move_39 : decode cX0_move 39 = .ok (.aload_n 0, 1) := by decide +kernel
theorem dX0_move_40 : decode cX0_move 40 = .ok (.getfield 34, 3) := by decide +kernel
theorem dX0_move_43 : decode cX0_move 43 = .ok (.aload_n 0, 1) := by decide +kernel
theorem dX0_move_44 : decode cX0_move 44 = .ok (.getfield 28, 3) := by decide +kernel
theorem dX0_move_47 : decode cX0_move 47 = .ok (.isub, 1) := by decide +kernel
theorem dX0_move_48 : decode cX0_move 48 = .ok (.invokestatic 56, 3) := by decide +kernel
theorem dX0_move_51 : decode cX0_move 51 = .ok (.putfield 34, 3) := by decide +kernel
theorem dX0_move_54 : decode cX0_move 54 = .ok (.return_, 1) := by decide +kernel
set_option maxRecDepth 20000 in
theorem ggX0_send_X0_placeOf : GoodIn wsX0_send wsX0_placeOf := goodIn_r _ [7, 8, 9, 10, 11] (by decide +kernel) (by decide +kernel)
set_option maxRecDepth 20000 in
theorem gX0_send_X0_placeOf : GoodIn wsX0_send (va_wsS RX0 59 yX0_placeOf wsX0_placeOf) := goodIn_app (goodIn_of _ (by decide +kernel)) ggX0_send_X0_placeOf
theorem dX0_send_0 : decode cX0_send 0 = .ok (.iload_n 2, 1) := by decide +kernel
theorem dX0_send_1 : decode cX0_send 1 = .ok (.ifCond .ne 7, 3) := by decide +kernel
theorem dX0_send_4 : decode cX0_send 4 = .ok (.iconst 0, 1) := by decide +kernel
theorem dX0_send_5 : decode cX0_send 5 = .ok (.goto 4, 3) := by decide +kernel
theorem dX0_send_8 : decode cX0_send 8 = .ok (.iconst 1, 1) := by decide +kernel
theorem dX0_send_9 : decode cX0_send 9 = .ok (.istore 4, 2) := by decide +kernel
theorem dX0_send_11 : decode cX0_send 11 = .ok (.aload_n 0, 1) := by decide +kernel
theorem dX0_send_12 : decode cX0_send 12 = .ok (.getfield 15, 3) := by decide +kernel
theorem dX0_send_15 : decode cX0_send 15 = .ok (.iload 4, 2) := by decide +kernel
theorem dX0_send_17 : decode cX0_send 17 = .ok (.dup2, 1) := by decide +kernel
theorem dX0_send_18 : decode cX0_send 18 = .ok (.iaload, 1) := by decide +kernel
theorem dX0_send_19 : decode cX0_send 19 = .ok (.iload_n 1, 1) := by decide +kernel
theorem dX0_send_20 : decode cX0_send 20 = .ok (.iadd, 1) := by decide +kernel
theorem dX0_send_21 : decode cX0_send 21 = .ok (.iastore, 1) := by decide +kernel
theorem dX0_send_22 : decode cX0_send 22 = .ok (.aload_n 0, 1) := by decide +kernel
theorem dX0_send_23 : decode cX0_send 23 = .ok (.getfield 21, 3) := by decide +kernel
theorem dX0_send_26 : decode cX0_send 26 = .ok (.iload_n 3, 1) := by decide +kernel
theorem dX0_send_27 : decode cX0_send 27 = .ok (.aload_n 0, 1) := by decide +kernel
theorem dX0_send_28 : decode cX0_send 28 = .ok (.getfield 31, 3) := by decide +kernel
theorem dX0_send_31 : decode cX0_send 31 = .ok (.iadd, 1) := by decide +kernel
theorem dX0_send_32 : decode cX0_send 32 = .ok (.iconst 1, 1) := by decide +kernel
theorem dX0_send_33 : decode cX0_send 33 = .ok (.iload 4, 2) := by decide +kernel
theorem dX0_send_35 : decode cX0_send 35 = .ok (.isub, 1) := by decide +kernel
theorem dX0_send_36 : decode cX0_send 36 = .ok (.invokestatic 59, 3) := by decide +kernel
theorem dX0_send_39 : decode cX0_send 39 = .ok (.dup2, 1) := by decide +kernel
theorem dX0_send_40 : decode cX0_send 40 = .ok (.iaload, 1) := by decide +kernel
theorem dX0_send_41 : decode cX0_send 41 = .ok (.iload_n 1, 1) := by decide +kernel
theorem dX0_send_42 : decode cX0_send 42 = .ok (.iadd, 1) := by decide +kernel
theorem dX0_send_43 : decode cX0_send 43 = .ok (.iastore, 1) := by decide +kernel
theorem dX0_send_44 : decode cX0_send 44 = .ok (.return_, 1) := by decide +kernel
set_option maxRecDepth 20000 in
theorem ggX0_takeArrived_X0_placeOf : GoodIn wsX0_takeArrived wsX0_placeOf := goodIn_r _ [5, 6, 7, 8, 9] (by decide +kernel) (by decide +kernel)
set_option maxRecDepth 20000 in
theorem gX0_takeArrived_X0_placeOf : GoodIn wsX0_takeArrived (va_wsS RX0 59 yX0_placeOf wsX0_placeOf) := goodIn_app (goodIn_of _ (by decide +kernel)) ggX0_takeArrived_X0_placeOf
theorem dX0_takeArrived_0 : decode cX0_takeArrived 0 = .ok (.iload_n 2, 1) := by decide +kernel
theorem dX0_takeArrived_1 : decode cX0_takeArrived 1 = .ok (.iload_n 1, 1) := by decide +kernel
theorem dX0_takeArrived_2 : decode cX0_takeArrived 2 = .ok (.invokestatic 59, 3) := by decide +kernel
theorem dX0_takeArrived_5 : decode cX0_takeArrived 5 = .ok (.istore_n 3, 1) := by decide +kernel
theorem dX0_takeArrived_6 : decode cX0_takeArrived 6 = .ok (.aload_n 0, 1) := by decide +kernel
theorem dX0_takeArrived_7 : decode cX0_takeArrived 7 = .ok (.getfield 21, 3) := by decide +kernel
theorem dX0_takeArrived_10 : decode cX0_takeArrived 10 = .ok (.iload_n 3, 1) := by decide +kernel
theorem dX0_takeArrived_11 : decode cX0_takeArrived 11 = .ok (.iaload, 1) := by decide +kernel
theorem dX0_takeArrived_12 : decode cX0_takeArrived 12 = .ok (.istore 4, 2) := by decide +kernel
theorem dX0_takeArrived_14 : decode cX0_takeArrived 14 = .ok (.aload_n 0, 1) := by decide +kernel
theorem dX0_takeArrived_15 : decode cX0_takeArrived 15 = .ok (.getfield 21, 3) := by decide +kernel
theorem dX0_takeArrived_18 : decode cX0_takeArrived 18 = .ok (.iload_n 3, 1) := by decide +kernel
theorem dX0_takeArrived_19 : decode cX0_takeArrived 19 = .ok (.iconst 0, 1) := by decide +kernel
theorem dX0_takeArrived_20 : decode cX0_takeArrived 20 = .ok (.iastore, 1) := by decide +kernel
theorem dX0_takeArrived_21 : decode cX0_takeArrived 21 = .ok (.iload 4, 2) := by decide +kernel
theorem dX0_takeArrived_23 : decode cX0_takeArrived 23 = .ok (.ireturn, 1) := by decide +kernel
theorem dX0_energyOnItsWay_0 : decode cX0_energyOnItsWay 0 = .ok (.iconst 0, 1) := by decide +kernel
theorem dX0_energyOnItsWay_1 : decode cX0_energyOnItsWay 1 = .ok (.istore_n 1, 1) := by decide +kernel
theorem dX0_energyOnItsWay_2 : decode cX0_energyOnItsWay 2 = .ok (.aload_n 0, 1) := by decide +kernel
theorem dX0_energyOnItsWay_3 : decode cX0_energyOnItsWay 3 = .ok (.getfield 21, 3) := by decide +kernel
theorem dX0_energyOnItsWay_6 : decode cX0_energyOnItsWay 6 = .ok (.astore_n 2, 1) := by decide +kernel
theorem dX0_energyOnItsWay_7 : decode cX0_energyOnItsWay 7 = .ok (.aload_n 2, 1) := by decide +kernel
theorem dX0_energyOnItsWay_8 : decode cX0_energyOnItsWay 8 = .ok (.arraylength, 1) := by decide +kernel
theorem dX0_energyOnItsWay_9 : decode cX0_energyOnItsWay 9 = .ok (.istore_n 3, 1) := by decide +kernel
theorem dX0_energyOnItsWay_10 : decode cX0_energyOnItsWay 10 = .ok (.iconst 0, 1) := by decide +kernel
theorem dX0_energyOnItsWay_11 : decode cX0_energyOnItsWay 11 = .ok (.istore 4, 2) := by decide +kernel
theorem dX0_energyOnItsWay_13 : decode cX0_energyOnItsWay 13 = .ok (.iload 4, 2) := by decide +kernel
theorem dX0_energyOnItsWay_15 : decode cX0_energyOnItsWay 15 = .ok (.iload_n 3, 1) := by decide +kernel
theorem dX0_energyOnItsWay_16 : decode cX0_energyOnItsWay 16 = .ok (.if_icmp .ge 20, 3) := by decide +kernel
theorem dX0_energyOnItsWay_19 : decode cX0_energyOnItsWay 19 = .ok (.aload_n 2, 1) := by decide +kernel
theorem dX0_energyOnItsWay_20 : decode cX0_energyOnItsWay 20 = .ok (.iload 4, 2) := by decide +kernel
theorem dX0_energyOnItsWay_22 : decode cX0_energyOnItsWay 22 = .ok (.iaload, 1) := by decide +kernel
theorem dX0_energyOnItsWay_23 : decode cX0_energyOnItsWay 23 = .ok (.istore 5, 2) := by decide +kernel
theorem dX0_energyOnItsWay_25 : decode cX0_energyOnItsWay 25 = .ok (.iload_n 1, 1) := by decide +kernel
theorem dX0_energyOnItsWay_26 : decode cX0_energyOnItsWay 26 = .ok (.iload 5, 2) := by decide +kernel
theorem dX0_energyOnItsWay_28 : decode cX0_energyOnItsWay 28 = .ok (.iadd, 1) := by decide +kernel
theorem dX0_energyOnItsWay_29 : decode cX0_energyOnItsWay 29 = .ok (.istore_n 1, 1) := by decide +kernel
theorem dX0_energyOnItsWay_30 : decode cX0_energyOnItsWay 30 = .ok (.iinc 4 1, 3) := by decide +kernel
theorem dX0_energyOnItsWay_33 : decode cX0_energyOnItsWay 33 = .ok (.goto (-20), 3) := by decide +kernel
theorem dX0_energyOnItsWay_36 : decode cX0_energyOnItsWay 36 = .ok (.iload_n 1, 1) := by decide +kernel
theorem dX0_energyOnItsWay_37 : decode cX0_energyOnItsWay 37 = .ok (.ireturn, 1) := by decide +kernel
set_option maxRecDepth 20000 in
theorem ggX0_placeOf_J9_floorMod_7cf53 : GoodIn wsX0_placeOf wsJ9_floorMod_7cf53 := goodIn_r _ [4] (by decide +kernel) (by decide +kernel)
set_option maxRecDepth 20000 in
theorem gX0_placeOf_J9_floorMod_7cf53 : GoodIn wsX0_placeOf (va_wsS RX0 62 yJ9_floorMod_7cf53 wsJ9_floorMod_7cf53) := goodIn_app (goodIn_of _ (by decide +kernel)) ggX0_placeOf_J9_floorMod_7cf53
theorem dX0_placeOf_0 : decode cX0_placeOf 0 = .ok (.iconst 2, 1) := by decide +kernel
theorem dX0_placeOf_1 : decode cX0_placeOf 1 = .ok (.iload_n 0, 1) := by decide +kernel
theorem dX0_placeOf_2 : decode cX0_placeOf 2 = .ok (.bipush 6, 2) := by decide +kernel
theorem dX0_placeOf_4 : decode cX0_placeOf 4 = .ok (.invokestatic 62, 3) := by decide +kernel
theorem dX0_placeOf_7 : decode cX0_placeOf 7 = .ok (.imul, 1) := by decide +kernel
theorem dX0_placeOf_8 : decode cX0_placeOf 8 = .ok (.iload_n 1, 1) := by decide +kernel
theorem dX0_placeOf_9 : decode cX0_placeOf 9 = .ok (.ifCond .ne 7, 3) := by decide +kernel
theorem dX0_placeOf_12 : decode cX0_placeOf 12 = .ok (.iconst 0, 1) := by decide +kernel
theorem dX0_placeOf_13 : decode cX0_placeOf 13 = .ok (.goto 4, 3) := by decide +kernel
theorem dX0_placeOf_16 : decode cX0_placeOf 16 = .ok (.iconst 1, 1) := by decide +kernel
theorem dX0_placeOf_17 : decode cX0_placeOf 17 = .ok (.iadd, 1) := by decide +kernel
theorem dX0_placeOf_18 : decode cX0_placeOf 18 = .ok (.ireturn, 1) := by decide +kernel
theorem dX1_init_0 : decode cX1_init 0 = .ok (.aload_n 0, 1) := by decide +kernel
theorem dX1_init_1 : decode cX1_init 1 = .ok (.invokespecial 1, 3) := by decide +kernel
theorem dX1_init_4 : decode cX1_init 4 = .ok (.return_, 1) := by decide +kernel
theorem dX1_becomeSound_0 : decode cX1_becomeSound 0 = .ok (.aload_n 0, 1) := by decide +kernel
theorem dX1_becomeSound_1 : decode cX1_becomeSound 1 = .ok (.iconst 1, 1) := by decide +kernel
theorem dX1_becomeSound_2 : decode cX1_becomeSound 2 = .ok (.putfield 7, 3) := by decide +kernel
theorem dX1_becomeSound_5 : decode cX1_becomeSound 5 = .ok (.aload_n 0, 1) := by decide +kernel
theorem dX1_becomeSound_6 : decode cX1_becomeSound 6 = .ok (.iload_n 1, 1) := by decide +kernel
theorem dX1_becomeSound_7 : decode cX1_becomeSound 7 = .ok (.putfield 13, 3) := by decide +kernel
theorem dX1_becomeSound_10 : decode cX1_becomeSound 10 = .ok (.aload_n 0, 1) := by decide +kernel
theorem dX1_becomeSound_11 : decode cX1_becomeSound 11 = .ok (.iload_n 2, 1) := by decide +kernel
theorem dX1_becomeSound_12 : decode cX1_becomeSound 12 = .ok (.putfield 17, 3) := by decide +kernel
theorem dX1_becomeSound_15 : decode cX1_becomeSound 15 = .ok (.aload_n 0, 1) := by decide +kernel
theorem dX1_becomeSound_16 : decode cX1_becomeSound 16 = .ok (.iload_n 3, 1) := by decide +kernel
theorem dX1_becomeSound_17 : decode cX1_becomeSound 17 = .ok (.putfield 20, 3) := by decide +kernel
theorem dX1_becomeSound_20 : decode cX1_becomeSound 20 = .ok (.aload_n 0, 1) := by decide +kernel
theorem dX1_becomeSound_21 : decode cX1_becomeSound 21 = .ok (.iload 4, 2) := by decide +kernel
theorem dX1_becomeSound_23 : decode cX1_becomeSound 23 = .ok (.putfield 23, 3) := by decide +kernel
theorem dX1_becomeSound_26 : decode cX1_becomeSound 26 = .ok (.return_, 1) := by decide +kernel
theorem dX1_becomeTarget_0 : decode cX1_becomeTarget 0 = .ok (.aload_n 0, 1) := by decide +kernel
theorem dX1_becomeTarget_1 : decode cX1_becomeTarget 1 = .ok (.iconst 0, 1) := by decide +kernel
theorem dX1_becomeTarget_2 : decode cX1_becomeTarget 2 = .ok (.putfield 7, 3) := by decide +kernel
theorem dX1_becomeTarget_5 : decode cX1_becomeTarget 5 = .ok (.aload_n 0, 1) := by decide +kernel
theorem dX1_becomeTarget_6 : decode cX1_becomeTarget 6 = .ok (.iload_n 1, 1) := by decide +kernel
theorem dX1_becomeTarget_7 : decode cX1_becomeTarget 7 = .ok (.putfield 13, 3) := by decide +kernel
theorem dX1_becomeTarget_10 : decode cX1_becomeTarget 10 = .ok (.aload_n 0, 1) := by decide +kernel
theorem dX1_becomeTarget_11 : decode cX1_becomeTarget 11 = .ok (.iload_n 2, 1) := by decide +kernel
theorem dX1_becomeTarget_12 : decode cX1_becomeTarget 12 = .ok (.putfield 17, 3) := by decide +kernel
theorem dX1_becomeTarget_15 : decode cX1_becomeTarget 15 = .ok (.aload_n 0, 1) := by decide +kernel
theorem dX1_becomeTarget_16 : decode cX1_becomeTarget 16 = .ok (.iconst 0, 1) := by decide +kernel
theorem dX1_becomeTarget_17 : decode cX1_becomeTarget 17 = .ok (.putfield 20, 3) := by decide +kernel
theorem dX1_becomeTarget_20 : decode cX1_becomeTarget 20 = .ok (.aload_n 0, 1) := by decide +kernel
theorem dX1_becomeTarget_21 : decode cX1_becomeTarget 21 = .ok (.iload_n 3, 1) := by decide +kernel
theorem dX1_becomeTarget_22 : decode cX1_becomeTarget 22 = .ok (.putfield 23, 3) := by decide +kernel
theorem dX1_becomeTarget_25 : decode cX1_becomeTarget 25 = .ok (.return_, 1) := by decide +kernel
theorem dX1_copyFrom_0 : decode cX1_copyFrom 0 = .ok (.aload_n 0, 1) := by decide +kernel
theorem dX1_copyFrom_1 : decode cX1_copyFrom 1 = .ok (.aload_n 1, 1) := by decide +kernel
theorem dX1_copyFrom_2 : decode cX1_copyFrom 2 = .ok (.getfield 7, 3) := by decide +kernel
theorem dX1_copyFrom_5 : decode cX1_copyFrom 5 = .ok (.putfield 7, 3) := by decide +kernel
theorem dX1_copyFrom_8 : decode cX1_copyFrom 8 = .ok (.aload_n 0, 1) := by decide +kernel
theorem dX1_copyFrom_9 : decode cX1_copyFrom 9 = .ok (.aload_n 1, 1) := by decide +kernel
theorem dX1_copyFrom_10 : decode cX1_copyFrom 10 = .ok (.getfield 17, 3) := by decide +kernel
theorem dX1_copyFrom_13 : decode cX1_copyFrom 13 = .ok (.putfield 17, 3) := by decide +kernel
theorem dX1_copyFrom_16 : decode cX1_copyFrom 16 = .ok (.aload_n 0, 1) := by decide +kernel
theorem dX1_copyFrom_17 : decode cX1_copyFrom 17 = .ok (.aload_n 1, 1) := by decide +kernel
theorem dX1_copyFrom_18 : decode cX1_copyFrom 18 = .ok (.getfield 13, 3) := by decide +kernel
theorem dX1_copyFrom_21 : decode cX1_copyFrom 21 = .ok (.putfield 13, 3) := by decide +kernel
theorem dX1_copyFrom_24 : decode cX1_copyFrom 24 = .ok (.aload_n 0, 1) := by decide +kernel
theorem dX1_copyFrom_25 : decode cX1_copyFrom 25 = .ok (.aload_n 1, 1) := by decide +kernel
theorem dX1_copyFrom_26 : decode cX1_copyFrom 26 = .ok (.getfield 20, 3) := by decide +kernel
theorem dX1_copyFrom_29 : decode cX1_copyFrom 29 = .ok (.putfield 20, 3) := by decide +kernel
theorem dX1_copyFrom_32 : decode cX1_copyFrom 32 = .ok (.aload_n 0, 1) := by decide +kernel
theorem dX1_copyFrom_33 : decode cX1_copyFrom 33 = .ok (.aload_n 1, 1) := by decide +kernel
theorem dX1_copyFrom_34 : decode cX1_copyFrom 34 = .ok (.getfield 23, 3) := by decide +kernel
theorem dX1_copyFrom_37 : decode cX1_copyFrom 37 = .ok (.putfield 23, 3) := by decide +kernel
theorem dX1_copyFrom_40 : decode cX1_copyFrom 40 = .ok (.return_, 1) := by decide +kernel
theorem dX1_isHeardIn_0 : decode cX1_isHeardIn 0 = .ok (.aload_n 0, 1) := by decide +kernel
theorem dX1_isHeardIn_1 : decode cX1_isHeardIn 1 = .ok (.getfield 7, 3) := by decide +kernel
theorem dX1_isHeardIn_4 : decode cX1_isHeardIn 4 = .ok (.ifCond .eq 28, 3) := by decide +kernel
theorem dX1_isHeardIn_7 : decode cX1_isHeardIn 7 = .ok (.aload_n 0, 1) := by decide +kernel
theorem dX1_isHeardIn_8 : decode cX1_isHeardIn 8 = .ok (.getfield 17, 3) := by decide +kernel
theorem dX1_isHeardIn_11 : decode cX1_isHeardIn 11 = .ok (.iload_n 1, 1) := by decide +kernel
theorem dX1_isHeardIn_12 : decode cX1_isHeardIn 12 = .ok (.if_icmp .gt 20, 3) := by decide +kernel
theorem dX1_isHeardIn_15 : decode cX1_isHeardIn 15 = .ok (.iload_n 1, 1) := by decide +kernel
theorem dX1_isHeardIn_16 : decode cX1_isHeardIn 16 = .ok (.aload_n 0, 1) := by decide +kernel
theorem dX1_isHeardIn_17 : decode cX1_isHeardIn 17 = .ok (.getfield 17, 3) := by decide +kernel
theorem dX1_isHeardIn_20 : decode cX1_isHeardIn 20 = .ok (.aload_n 0, 1) := by decide +kernel
theorem dX1_isHeardIn_21 : decode cX1_isHeardIn 21 = .ok (.getfield 20, 3) := by decide +kernel
theorem dX1_isHeardIn_24 : decode cX1_isHeardIn 24 = .ok (.iadd, 1) := by decide +kernel
theorem dX1_isHeardIn_25 : decode cX1_isHeardIn 25 = .ok (.if_icmp .ge 7, 3) := by decide +kernel
theorem dX1_isHeardIn_28 : decode cX1_isHeardIn 28 = .ok (.iconst 1, 1) := by decide +kernel
theorem dX1_isHeardIn_29 : decode cX1_isHeardIn 29 = .ok (.goto 4, 3) := by decide +kernel
theorem dX1_isHeardIn_32 : decode cX1_isHeardIn 32 = .ok (.iconst 0, 1) := by decide +kernel
theorem dX1_isHeardIn_33 : decode cX1_isHeardIn 33 = .ok (.ireturn, 1) := by decide +kernel
theorem dX1_isTargetFor_0 : decode cX1_isTargetFor 0 = .ok (.aload_n 0, 1) := by decide +kernel
theorem dX1_isTargetFor_1 : decode cX1_isTargetFor 1 = .ok (.getfield 7, 3) := by decide +kernel
theorem dX1_isTargetFor_4 : decode cX1_isTargetFor 4 = .ok (.ifCond .ne 15, 3) := by decide +kernel
theorem dX1_isTargetFor_7 : decode cX1_isTargetFor 7 = .ok (.aload_n 0, 1) := by decide +kernel
theorem dX1_isTargetFor_8 : decode cX1_isTargetFor 8 = .ok (.getfield 17, 3) := by decide +kernel
theorem dX1_isTargetFor_11 : decode cX1_isTargetFor 11 = .ok (.iload_n 1, 1) := by decide +kernel
theorem dX1_isTargetFor_12 : decode cX1_isTargetFor 12 = .ok (.if_icmp .ne 7, 3) := by decide +kernel
theorem dX1_isTargetFor_15 : decode cX1_isTargetFor 15 = .ok (.iconst 1, 1) := by decide +kernel
theorem dX1_isTargetFor_16 : decode cX1_isTargetFor 16 = .ok (.goto 4, 3) := by decide +kernel
theorem dX1_isTargetFor_19 : decode cX1_isTargetFor 19 = .ok (.iconst 0, 1) := by decide +kernel
theorem dX1_isTargetFor_20 : decode cX1_isTargetFor 20 = .ok (.ireturn, 1) := by decide +kernel
theorem dX1_endsWith_0 : decode cX1_endsWith 0 = .ok (.aload_n 0, 1) := by decide +kernel
theorem dX1_endsWith_1 : decode cX1_endsWith 1 = .ok (.getfield 7, 3) := by decide +kernel
theorem dX1_endsWith_4 : decode cX1_endsWith 4 = .ok (.ifCond .eq 26, 3) := by decide +kernel
theorem dX1_endsWith_7 : decode cX1_endsWith 7 = .ok (.aload_n 0, 1) := by decide +kernel
theorem dX1_endsWith_8 : decode cX1_endsWith 8 = .ok (.getfield 17, 3) := by decide +kernel
theorem dX1_endsWith_11 : decode cX1_endsWith 11 = .ok (.aload_n 0, 1) := by decide +kernel
theorem dX1_endsWith_12 : decode cX1_endsWith 12 = .ok (.getfield 20, 3) := by decide +kernel
theorem dX1_endsWith_15 : decode cX1_endsWith 15 = .ok (.iadd, 1) := by decide +kernel
theorem dX1_endsWith_16 : decode cX1_endsWith 16 = .ok (.iconst 1, 1) := by decide +kernel
theorem dX1_endsWith_17 : decode cX1_endsWith 17 = .ok (.isub, 1) := by decide +kernel
theorem dX1_endsWith_18 : decode cX1_endsWith 18 = .ok (.iload_n 1, 1) := by decide +kernel
theorem dX1_endsWith_19 : decode cX1_endsWith 19 = .ok (.if_icmp .gt 7, 3) := by decide +kernel
theorem dX1_endsWith_22 : decode cX1_endsWith 22 = .ok (.iconst 1, 1) := by decide +kernel
theorem dX1_endsWith_23 : decode cX1_endsWith 23 = .ok (.goto 20, 3) := by decide +kernel
theorem dX1_endsWith_26 : decode cX1_endsWith 26 = .ok (.iconst 0, 1) := by decide +kernel
theorem dX1_endsWith_27 : decode cX1_endsWith 27 = .ok (.goto 16, 3) := by decide +kernel
theorem dX1_endsWith_30 : decode cX1_endsWith 30 = .ok (.aload_n 0, 1) := by decide +kernel
theorem dX1_endsWith_31 : decode cX1_endsWith 31 = .ok (.getfield 17, 3) := by decide +kernel
theorem dX1_endsWith_34 : decode cX1_endsWith 34 = .ok (.iload_n 1, 1) := by decide +kernel
theorem dX1_endsWith_35 : decode cX1_endsWith 35 = .ok (.if_icmp .gt 7, 3) := by decide +kernel
theorem dX1_endsWith_38 : decode cX1_endsWith 38 = .ok (.iconst 1, 1) := by decide +kernel
theorem dX1_endsWith_39 : decode cX1_endsWith 39 = .ok (.goto 4, 3) := by decide +kernel
theorem dX1_endsWith_42 : decode cX1_endsWith 42 = .ok (.iconst 0, 1) := by decide +kernel
theorem dX1_endsWith_43 : decode cX1_endsWith 43 = .ok (.ireturn, 1) := by decide +kernel
theorem dX1_allEnergy_0 : decode cX1_allEnergy 0 = .ok (.aload_n 0, 1) := by decide +kernel
theorem dX1_allEnergy_1 : decode cX1_allEnergy 1 = .ok (.getfield 7, 3) := by decide +kernel
theorem dX1_allEnergy_4 : decode cX1_allEnergy 4 = .ok (.ifCond .eq 15, 3) := by decide +kernel
theorem dX1_allEnergy_7 : decode cX1_allEnergy 7 = .ok (.aload_n 0, 1) := by decide +kernel
theorem dX1_allEnergy_8 : decode cX1_allEnergy 8 = .ok (.getfield 20, 3) := by decide +kernel
theorem dX1_allEnergy_11 : decode cX1_allEnergy 11 = .ok (.aload_n 0, 1) := by decide +kernel
theorem dX1_allEnergy_12 : decode cX1_allEnergy 12 = .ok (.getfield 23, 3) := by decide +kernel
theorem dX1_allEnergy_15 : decode cX1_allEnergy 15 = .ok (.imul, 1) := by decide +kernel
theorem dX1_allEnergy_16 : decode cX1_allEnergy 16 = .ok (.goto 4, 3) := by decide +kernel
theorem dX1_allEnergy_19 : decode cX1_allEnergy 19 = .ok (.iconst 0, 1) := by decide +kernel
theorem dX1_allEnergy_20 : decode cX1_allEnergy 20 = .ok (.ireturn, 1) := by decide +kernel
set_option maxRecDepth 20000 in
theorem ggX2_init_X3_init : GoodIn wsX2_init wsX3_init := goodIn_r _ [10, 11, 2, 3, 12, 13, 14, 15, 16, 17, 18, 19, 20, 21, 22, 23, 24, 25, 26, 27, 28, 29, 30, 31, 32, 33, 34, 35, 36, 37, 38, 39, 40, 41, 42, 43, 44, 45, 46, 47, 48, 51, 52, 53, 54, 55, 56, 57, 58, 59, 60, 61, 62, 63, 64, 65, 66, 67, 68, 69, 70, 71, 72, 73, 74, 75, 76, 77, 78, 79, 80, 81, 82, 83, 84] (by decide +kernel) (by decide +kernel)
set_option maxRecDepth 20000 in
theorem gX2_init_X3_init : GoodIn wsX2_init (wsX3_init) := ggX2_init_X3_init
theorem dX2_init_0 : decode cX2_init 0 = .ok (.aload_n 0, 1) := by decide +kernel
theorem dX2_init_1 : decode cX2_init 1 = .ok (.invokespecial 3, 3) := by decide +kernel
theorem dX2_init_4 : decode cX2_init 4 = .ok (.aload_n 0, 1) := by decide +kernel
theorem dX2_init_5 : decode cX2_init 5 = .ok (.iconst 4, 1) := by decide +kernel
theorem dX2_init_6 : decode cX2_init 6 = .ok (.anewarray 9, 3) := by decide +kernel
theorem dX2_init_9 : decode cX2_init 9 = .ok (.putfield 11, 3) := by decide +kernel
theorem dX2_init_12 : decode cX2_init 12 = .ok (.iconst 0, 1) := by decide +kernel
theorem dX2_init_13 : decode cX2_init 13 = .ok (.istore_n 1, 1) := by decide +kernel
theorem dX2_init_14 : decode cX2_init 14 = .ok (.iload_n 1, 1) := by decide +kernel
theorem dX2_init_15 : decode cX2_init 15 = .ok (.aload_n 0, 1) := by decide +kernel
theorem dX2_init_16 : decode cX2_init 16 = .ok (.getfield 11, 3) := by decide +kernel
theorem dX2_init_19 : decode cX2_init 19 = .ok (.arraylength, 1) := by decide +kernel
theorem dX2_init_20 : decode cX2_init 20 = .ok (.if_icmp .ge 22, 3) := by decide +kernel
theorem dX2_init_23 : decode cX2_init 23 = .ok (.aload_n 0, 1) := by decide +kernel
theorem dX2_init_24 : decode cX2_init 24 = .ok (.getfield 11, 3) := by decide +kernel
theorem dX2_init_27 : decode cX2_init 27 = .ok (.iload_n 1, 1) := by decide +kernel
theorem dX2_init_28 : decode cX2_init 28 = .ok (.new 9, 3) := by decide +kernel
theorem dX2_init_31 : decode cX2_init 31 = .ok (.dup, 1) := by decide +kernel
theorem dX2_init_32 : decode cX2_init 32 = .ok (.invokespecial 17, 3) := by decide +kernel
theorem dX2_init_35 : decode cX2_init 35 = .ok (.aastore, 1) := by decide +kernel
theorem dX2_init_36 : decode cX2_init 36 = .ok (.iinc 1 1, 3) := by decide +kernel
theorem dX2_init_39 : decode cX2_init 39 = .ok (.goto (-25), 3) := by decide +kernel
theorem dX2_init_42 : decode cX2_init 42 = .ok (.return_, 1) := by decide +kernel
set_option maxRecDepth 20000 in
theorem ggX2_record_X2_forgetOldest : GoodIn wsX2_record wsX2_forgetOldest := goodIn_r _ [7, 2, 1, 72, 73] (by decide +kernel) (by decide +kernel)
set_option maxRecDepth 20000 in
theorem gX2_record_X2_forgetOldest : GoodIn wsX2_record (wsV RX2 22 RX2 yX2_forgetOldest wsX2_forgetOldest) := goodIn_app (goodIn_of _ (by decide +kernel)) ggX2_record_X2_forgetOldest
set_option maxRecDepth 20000 in
theorem ggX2_record_X3_copyFrom : GoodIn wsX2_record wsX3_copyFrom := goodIn_r _ [12, 13, 14, 15, 16, 17, 18, 19, 20, 21, 22, 23, 24, 25, 26, 27, 28, 29, 30, 31, 32, 33, 34, 35, 36, 37, 38, 39, 40, 41, 42, 43, 44, 45, 46, 47, 48, 49, 50, 51, 52, 53, 54, 55, 56, 57, 58, 59, 60, 61, 62, 63, 64, 65, 66, 67, 68, 69, 70, 71, 74, 75, 76, 77, 78, 79, 80, 81, 82, 83, 84, 85, 86, 87, 88, 89, 90, 91, 92, 93, 94, 95, 96, 97, 98, 99, 100, 101, 102, 103, 104, 105, 106, 107] (by decide +kernel) (by decide +kernel)
set_option maxRecDepth 20000 in
theorem gX2_record_X3_copyFrom : GoodIn wsX2_record (wsV RX2 25 RX3 yX3_copyFrom wsX3_copyFrom) := goodIn_app (goodIn_of _ (by decide +kernel)) ggX2_record_X3_copyFrom
theorem dX2_record_0 : decode cX2_record 0 = .ok (.aload_n 0, 1) := by decide +kernel
theorem dX2_record_1 : decode cX2_record 1 = .ok (.getfield 18, 3) := by decide +kernel
theorem dX2_record_4 : decode cX2_record 4 = .ok (.aload_n 0, 1) := by decide +kernel
theorem dX2_record_5 : decode cX2_record 5 = .ok (.getfield 11, 3) := by decide +kernel
theorem dX2_record_8 : decode cX2_record 8 = .ok (.arraylength, 1) := by decide +kernel
theorem dX2_record_9 : decode cX2_record 9 = .ok (.if_icmp .lt 7, 3) := by decide +kernel
theorem dX2_record_12 : decode cX2_record 12 = .ok (.aload_n 0, 1) := by decide +kernel
theorem dX2_record_13 : decode cX2_record 13 = .ok (.invokevirtual 22, 3) := by decide +kernel
theorem dX2_record_16 : decode cX2_record 16 = .ok (.aload_n 0, 1) := by decide +kernel
theorem dX2_record_17 : decode cX2_record 17 = .ok (.getfield 18, 3) := by decide +kernel
theorem dX2_record_20 : decode cX2_record 20 = .ok (.ifCond .lt 38, 3) := by decide +kernel
theorem dX2_record_23 : decode cX2_record 23 = .ok (.aload_n 0, 1) := by decide +kernel
theorem dX2_record_24 : decode cX2_record 24 = .ok (.getfield 18, 3) := by decide +kernel
theorem dX2_record_27 : decode cX2_record 27 = .ok (.aload_n 0, 1) := by decide +kernel
theorem dX2_record_28 : decode cX2_record 28 = .ok (.getfield 11, 3) := by decide +kernel
theorem dX2_record_31 : decode cX2_record 31 = .ok (.arraylength, 1) := by decide +kernel
theorem dX2_record_32 : decode cX2_record 32 = .ok (.if_icmp .ge 26, 3) := by decide +kernel
theorem dX2_record_35 : decode cX2_record 35 = .ok (.aload_n 0, 1) := by decide +kernel
theorem dX2_record_36 : decode cX2_record 36 = .ok (.getfield 11, 3) := by decide +kernel
theorem dX2_record_39 : decode cX2_record 39 = .ok (.aload_n 0, 1) := by decide +kernel
theorem dX2_record_40 : decode cX2_record 40 = .ok (.getfield 18, 3) := by decide +kernel
theorem dX2_record_43 : decode cX2_record 43 = .ok (.aaload, 1) := by decide +kernel
theorem dX2_record_44 : decode cX2_record 44 = .ok (.aload_n 1, 1) := by decide +kernel
theorem dX2_record_45 : decode cX2_record 45 = .ok (.invokevirtual 25, 3) := by decide +kernel
theorem dX2_record_48 : decode cX2_record 48 = .ok (.aload_n 0, 1) := by decide +kernel
theorem dX2_record_49 : decode cX2_record 49 = .ok (.dup, 1) := by decide +kernel
theorem dX2_record_50 : decode cX2_record 50 = .ok (.getfield 18, 3) := by decide +kernel
theorem dX2_record_53 : decode cX2_record 53 = .ok (.iconst 1, 1) := by decide +kernel
theorem dX2_record_54 : decode cX2_record 54 = .ok (.iadd, 1) := by decide +kernel
theorem dX2_record_55 : decode cX2_record 55 = .ok (.putfield 18, 3) := by decide +kernel
theorem dX2_record_58 : decode cX2_record 58 = .ok (.return_, 1) := by decide +kernel
theorem dX2_forgetOldest_0 : decode cX2_forgetOldest 0 = .ok (.aload_n 0, 1) := by decide +kernel
theorem dX2_forgetOldest_1 : decode cX2_forgetOldest 1 = .ok (.getfield 11, 3) := by decide +kernel
theorem dX2_forgetOldest_4 : decode cX2_forgetOldest 4 = .ok (.iconst 0, 1) := by decide +kernel
theorem dX2_forgetOldest_5 : decode cX2_forgetOldest 5 = .ok (.aaload, 1) := by decide +kernel
theorem dX2_forgetOldest_6 : decode cX2_forgetOldest 6 = .ok (.astore_n 1, 1) := by decide +kernel
theorem dX2_forgetOldest_7 : decode cX2_forgetOldest 7 = .ok (.iconst 0, 1) := by decide +kernel
theorem dX2_forgetOldest_8 : decode cX2_forgetOldest 8 = .ok (.istore_n 2, 1) := by decide +kernel
theorem dX2_forgetOldest_9 : decode cX2_forgetOldest 9 = .ok (.iload_n 2, 1) := by decide +kernel
theorem dX2_forgetOldest_10 : decode cX2_forgetOldest 10 = .ok (.iconst 1, 1) := by decide +kernel
theorem dX2_forgetOldest_11 : decode cX2_forgetOldest 11 = .ok (.iadd, 1) := by decide +kernel
theorem dX2_forgetOldest_12 : decode cX2_forgetOldest 12 = .ok (.aload_n 0, 1) := by decide +kernel
theorem dX2_forgetOldest_13 : decode cX2_forgetOldest 13 = .ok (.getfield 11, 3) := by decide +kernel
theorem dX2_forgetOldest_16 : decode cX2_forgetOldest 16 = .ok (.arraylength, 1) := by decide +kernel
theorem dX2_forgetOldest_17 : decode cX2_forgetOldest 17 = .ok (.if_icmp .ge 23, 3) := by decide +kernel
theorem dX2_forgetOldest_20 : decode cX2_forgetOldest 20 = .ok (.aload_n 0, 1) := by decide +kernel
theorem dX2_forgetOldest_21 : decode cX2_forgetOldest 21 = .ok (.getfield 11, 3) := by decide +kernel
theorem dX2_forgetOldest_24 : decode cX2_forgetOldest 24 = .ok (.iload_n 2, 1) := by decide +kernel
theorem dX2_forgetOldest_25 : decode cX2_forgetOldest 25 = .ok (.aload_n 0, 1) := by decide +kernel
theorem dX2_forgetOldest_26 : decode cX2_forgetOldest 26 = .ok (.getfield 11, 3) := by decide +kernel
theorem dX2_forgetOldest_29 : decode cX2_forgetOldest 29 = .ok (.iload_n 2, 1) := by decide +kernel
theorem dX2_forgetOldest_30 : decode cX2_forgetOldest 30 = .ok (.iconst 1, 1) := by decide +kernel
theorem dX2_forgetOldest_31 : decode cX2_forgetOldest 31 = .ok (.iadd, 1) := by decide +kernel
theorem dX2_forgetOldest_32 : decode cX2_forgetOldest 32 = .ok (.aaload, 1) := by decide +kernel
theorem dX2_forgetOldest_33 : decode cX2_forgetOldest 33 = .ok (.aastore, 1) := by decide +kernel
theorem dX2_forgetOldest_34 : decode cX2_forgetOldest 34 = .ok (.iinc 2 1, 3) := by decide +kernel
theorem dX2_forgetOldest_37 : decode cX2_forgetOldest 37 = .ok (.goto (-28), 3) := by decide +kernel
theorem dX2_forgetOldest_40 : decode cX2_forgetOldest 40 = .ok (.aload_n 0, 1) := by decide +kernel
theorem dX2_forgetOldest_41 : decode cX2_forgetOldest 41 = .ok (.getfield 11, 3) := by decide +kernel
theorem dX2_forgetOldest_44 : decode cX2_forgetOldest 44 = .ok (.aload_n 0, 1) := by decide +kernel
theorem dX2_forgetOldest_45 : decode cX2_forgetOldest 45 = .ok (.getfield 11, 3) := by decide +kernel
theorem dX2_forgetOldest_48 : decode cX2_forgetOldest 48 = .ok (.arraylength, 1) := by decide +kernel
theorem dX2_forgetOldest_49 : decode cX2_forgetOldest 49 = .ok (.iconst 1, 1) := by decide +kernel
theorem dX2_forgetOldest_50 : decode cX2_forgetOldest 50 = .ok (.isub, 1) := by decide +kernel
theorem dX2_forgetOldest_51 : decode cX2_forgetOldest 51 = .ok (.aload_n 1, 1) := by decide +kernel
theorem dX2_forgetOldest_52 : decode cX2_forgetOldest 52 = .ok (.aastore, 1) := by decide +kernel
theorem dX2_forgetOldest_53 : decode cX2_forgetOldest 53 = .ok (.aload_n 0, 1) := by decide +kernel
theorem dX2_forgetOldest_54 : decode cX2_forgetOldest 54 = .ok (.aload_n 0, 1) := by decide +kernel
theorem dX2_forgetOldest_55 : decode cX2_forgetOldest 55 = .ok (.getfield 11, 3) := by decide +kernel
theorem dX2_forgetOldest_58 : decode cX2_forgetOldest 58 = .ok (.arraylength, 1) := by decide +kernel
theorem dX2_forgetOldest_59 : decode cX2_forgetOldest 59 = .ok (.iconst 1, 1) := by decide +kernel
theorem dX2_forgetOldest_60 : decode cX2_forgetOldest 60 = .ok (.isub, 1) := by decide +kernel
theorem dX2_forgetOldest_61 : decode cX2_forgetOldest 61 = .ok (.putfield 18, 3) := by decide +kernel
theorem dX2_forgetOldest_64 : decode cX2_forgetOldest 64 = .ok (.return_, 1) := by decide +kernel
set_option maxRecDepth 20000 in
theorem ggX2_restore_X3_copyFrom : GoodIn wsX2_restore wsX3_copyFrom := goodIn_r _ [7, 8, 9, 10, 11, 12, 13, 14, 15, 16, 17, 18, 19, 20, 21, 22, 23, 24, 25, 26, 27, 28, 29, 30, 31, 32, 33, 34, 35, 36, 37, 38, 39, 40, 41, 42, 43, 44, 45, 46, 47, 48, 49, 50, 51, 52, 53, 54, 55, 56, 57, 58, 59, 60, 61, 62, 63, 64, 65, 66, 69, 70, 71, 72, 73, 74, 75, 76, 77, 78, 79, 80, 81, 82, 83, 84, 85, 86, 87, 88, 89, 90, 91, 92, 93, 94, 95, 96, 97, 98, 99, 100, 101, 102] (by decide +kernel) (by decide +kernel)
set_option maxRecDepth 20000 in
theorem gX2_restore_X3_copyFrom : GoodIn wsX2_restore (wsV RX2 25 RX3 yX3_copyFrom wsX3_copyFrom) := goodIn_app (goodIn_of _ (by decide +kernel)) ggX2_restore_X3_copyFrom
theorem dX2_restore_0 : decode cX2_restore 0 = .ok (.aload_n 0, 1) := by decide +kernel
theorem dX2_restore_1 : decode cX2_restore 1 = .ok (.getfield 18, 3) := by decide +kernel
theorem dX2_restore_4 : decode cX2_restore 4 = .ok (.ifCond .le 38, 3) := by decide +kernel
theorem dX2_restore_7 : decode cX2_restore 7 = .ok (.aload_n 0, 1) := by decide +kernel
theorem dX2_restore_8 : decode cX2_restore 8 = .ok (.getfield 18, 3) := by decide +kernel
theorem dX2_restore_11 : decode cX2_restore 11 = .ok (.aload_n 0, 1) := by decide +kernel
theorem dX2_restore_12 : decode cX2_restore 12 = .ok (.getfield 11, 3) := by decide +kernel
theorem dX2_restore_15 : decode cX2_restore 15 = .ok (.arraylength, 1) := by decide +kernel
theorem dX2_restore_16 : decode cX2_restore 16 = .ok (.if_icmp .gt 26, 3) := by decide +kernel
theorem dX2_restore_19 : decode cX2_restore 19 = .ok (.aload_n 0, 1) := by decide +kernel
theorem dX2_restore_20 : decode cX2_restore 20 = .ok (.dup, 1) := by decide +kernel
theorem dX2_restore_21 : decode cX2_restore 21 = .ok (.getfield 18, 3) := by decide +kernel
theorem dX2_restore_24 : decode cX2_restore 24 = .ok (.iconst 1, 1) := by decide +kernel
theorem dX2_restore_25 : decode cX2_restore 25 = .ok (.isub, 1) := by decide +kernel
theorem dX2_restore_26 : decode cX2_restore 26 = .ok (.putfield 18, 3) := by decide +kernel
theorem dX2_restore_29 : decode cX2_restore 29 = .ok (.aload_n 1, 1) := by decide +kernel
theorem dX2_restore_30 : decode cX2_restore 30 = .ok (.aload_n 0, 1) := by decide +kernel
theorem dX2_restore_31 : decode cX2_restore 31 = .ok (.getfield 11, 3) := by decide +kernel
theorem dX2_restore_34 : decode cX2_restore 34 = .ok (.aload_n 0, 1) := by decide +kernel
theorem dX2_restore_35 : decode cX2_restore 35 = .ok (.getfield 18, 3) := by decide +kernel
theorem dX2_restore_38 : decode cX2_restore 38 = .ok (.aaload, 1) := by decide +kernel
theorem dX2_restore_39 : decode cX2_restore 39 = .ok (.invokevirtual 25, 3) := by decide +kernel
theorem dX2_restore_42 : decode cX2_restore 42 = .ok (.return_, 1) := by decide +kernel
set_option maxRecDepth 20000 in
theorem ggX3_init_X4_init : GoodIn wsX3_init wsX4_init := goodIn_r _ [21, 22, 2, 3, 23, 24, 25, 26, 27, 28, 29, 51, 52, 70, 71, 72, 73, 74] (by decide +kernel) (by decide +kernel)
set_option maxRecDepth 20000 in
theorem gX3_init_X4_init : GoodIn wsX3_init (wsX4_init) := ggX3_init_X4_init
set_option maxRecDepth 20000 in
theorem ggX3_init_X5_init : GoodIn wsX3_init wsX5_init := goodIn_r _ [31, 32, 2, 3, 12, 33, 53, 54, 55, 56, 57, 58, 59] (by decide +kernel) (by decide +kernel)
set_option maxRecDepth 20000 in
theorem gX3_init_X5_init_n35 : GoodIn wsX3_init (wsX5_init) := ggX3_init_X5_init
set_option maxRecDepth 20000 in
theorem ggX3_init_X0_init : GoodIn wsX3_init wsX0_init := goodIn_r _ [35, 36, 2, 3, 12, 37, 38, 39, 40, 60, 61, 62, 63, 64, 65, 66, 67, 68, 69] (by decide +kernel) (by decide +kernel)
set_option maxRecDepth 20000 in
theorem gX3_init_X0_init_n36 : GoodIn wsX3_init (wsX0_init) := ggX3_init_X0_init
theorem dX3_init_0 : decode cX3_init 0 = .ok (.aload_n 0, 1) := by decide +kernel
theorem dX3_init_1 : decode cX3_init 1 = .ok (.invokespecial 3, 3) := by decide +kernel
theorem dX3_init_4 : decode cX3_init 4 = .ok (.aload_n 0, 1) := by decide +kernel
theorem dX3_init_5 : decode cX3_init 5 = .ok (.bipush 8, 2) := by decide +kernel
theorem dX3_init_7 : decode cX3_init 7 = .ok (.anewarray 9, 3) := by decide +kernel
theorem dX3_init_10 : decode cX3_init 10 = .ok (.putfield 11, 3) := by decide +kernel
theorem dX3_init_13 : decode cX3_init 13 = .ok (.aload_n 0, 1) := by decide +kernel
theorem dX3_init_14 : decode cX3_init 14 = .ok (.bipush 12, 2) := by decide +kernel
theorem dX3_init_16 : decode cX3_init 16 = .ok (.anewarray 17, 3) := by decide +kernel
theorem dX3_init_19 : decode cX3_init 19 = .ok (.putfield 19, 3) := by decide +kernel
theorem dX3_init_22 : decode cX3_init 22 = .ok (.aload_n 0, 1) := by decide +kernel
theorem dX3_init_23 : decode cX3_init 23 = .ok (.new 23, 3) := by decide +kernel
theorem dX3_init_26 : decode cX3_init 26 = .ok (.dup, 1) := by decide +kernel
theorem dX3_init_27 : decode cX3_init 27 = .ok (.invokespecial 25, 3) := by decide +kernel
theorem dX3_init_30 : decode cX3_init 30 = .ok (.putfield 26, 3) := by decide +kernel
theorem dX3_init_33 : decode cX3_init 33 = .ok (.aload_n 0, 1) := by decide +kernel
theorem dX3_init_34 : decode cX3_init 34 = .ok (.iconst 2, 1) := by decide +kernel
theorem dX3_init_35 : decode cX3_init 35 = .ok (.newarray .int, 2) := by decide +kernel
theorem dX3_init_37 : decode cX3_init 37 = .ok (.dup, 1) := by decide +kernel
theorem dX3_init_38 : decode cX3_init 38 = .ok (.iconst 0, 1) := by decide +kernel
theorem dX3_init_39 : decode cX3_init 39 = .ok (.ldc 30, 2) := by decide +kernel
theorem dX3_init_41 : decode cX3_init 41 = .ok (.iastore, 1) := by decide +kernel
theorem dX3_init_42 : decode cX3_init 42 = .ok (.dup, 1) := by decide +kernel
theorem dX3_init_43 : decode cX3_init 43 = .ok (.iconst 1, 1) := by decide +kernel
theorem dX3_init_44 : decode cX3_init 44 = .ok (.bipush 10, 2) := by decide +kernel
theorem dX3_init_46 : decode cX3_init 46 = .ok (.iastore, 1) := by decide +kernel
theorem dX3_init_47 : decode cX3_init 47 = .ok (.putfield 31, 3) := by decide +kernel
theorem dX3_init_50 : decode cX3_init 50 = .ok (.iconst 0, 1) := by decide +kernel
theorem dX3_init_51 : decode cX3_init 51 = .ok (.istore_n 1, 1) := by decide +kernel
theorem dX3_init_52 : decode cX3_init 52 = .ok (.iload_n 1, 1) := by decide +kernel
theorem dX3_init_53 : decode cX3_init 53 = .ok (.aload_n 0, 1) := by decide +kernel
theorem dX3_init_54 : decode cX3_init 54 = .ok (.getfield 11, 3) := by decide +kernel
theorem dX3_init_57 : decode cX3_init 57 = .ok (.arraylength, 1) := by decide +kernel
theorem dX3_init_58 : decode cX3_init 58 = .ok (.if_icmp .ge 22, 3) := by decide +kernel
theorem dX3_init_61 : decode cX3_init 61 = .ok (.aload_n 0, 1) := by decide +kernel
theorem dX3_init_62 : decode cX3_init 62 = .ok (.getfield 11, 3) := by decide +kernel
theorem dX3_init_65 : decode cX3_init 65 = .ok (.iload_n 1, 1) := by decide +kernel
theorem dX3_init_66 : decode cX3_init 66 = .ok (.new 9, 3) := by decide +kernel
theorem dX3_init_69 : decode cX3_init 69 = .ok (.dup, 1) := by decide +kernel
theorem dX3_init_70 : decode cX3_init 70 = .ok (.invokespecial 35, 3) := by decide +kernel
theorem dX3_init_73 : decode cX3_init 73 = .ok (.aastore, 1) := by decide +kernel
theorem dX3_init_74 : decode cX3_init 74 = .ok (.iinc 1 1, 3) := by decide +kernel
theorem dX3_init_77 : decode cX3_init 77 = .ok (.goto (-25), 3) := by decide +kernel
theorem dX3_init_80 : decode cX3_init 80 = .ok (.iconst 0, 1) := by decide +kernel
theorem dX3_init_81 : decode cX3_init 81 = .ok (.istore_n 1, 1) := by decide +kernel
theorem dX3_init_82 : decode cX3_init 82 = .ok (.iload_n 1, 1) := by decide +kernel
theorem dX3_init_83 : decode cX3_init 83 = .ok (.aload_n 0, 1) := by decide +kernel
theorem dX3_init_84 : decode cX3_init 84 = .ok (.getfield 19, 3) := by decide +kernel
theorem dX3_init_87 : decode cX3_init 87 = .ok (.arraylength, 1) := by decide +kernel
theorem dX3_init_88 : decode cX3_init 88 = .ok (.if_icmp .ge 22, 3) := by decide +kernel
theorem dX3_init_91 : decode cX3_init 91 = .ok (.aload_n 0, 1) := by decide +kernel
theorem dX3_init_92 : decode cX3_init 92 = .ok (.getfield 19, 3) := by decide +kernel
theorem dX3_init_95 : decode cX3_init 95 = .ok (.iload_n 1, 1) := by decide +kernel
theorem dX3_init_96 : decode cX3_init 96 = .ok (.new 17, 3) := by decide +kernel
theorem dX3_init_99 : decode cX3_init 99 = .ok (.dup, 1) := by decide +kernel
theorem dX3_init_100 : decode cX3_init 100 = .ok (.invokespecial 36, 3) := by decide +kernel
theorem dX3_init_103 : decode cX3_init 103 = .ok (.aastore, 1) := by decide +kernel
theorem dX3_init_104 : decode cX3_init 104 = .ok (.iinc 1 1, 3) := by decide +kernel
theorem dX3_init_107 : decode cX3_init 107 = .ok (.goto (-25), 3) := by decide +kernel
theorem dX3_init_110 : decode cX3_init 110 = .ok (.return_, 1) := by decide +kernel
set_option maxRecDepth 20000 in
theorem ggX3_copyFrom_X5_copyFrom : GoodIn wsX3_copyFrom wsX5_copyFrom := goodIn_r _ [19, 20, 21, 22, 23, 24, 25, 26, 27, 6, 7, 8, 70, 71, 72, 73, 74, 75, 76] (by decide +kernel) (by decide +kernel)
set_option maxRecDepth 20000 in
theorem gX3_copyFrom_X5_copyFrom : GoodIn wsX3_copyFrom (wsV RX3 37 RX5 yX5_copyFrom wsX5_copyFrom) := goodIn_app (goodIn_of _ (by decide +kernel)) ggX3_copyFrom_X5_copyFrom
set_option maxRecDepth 20000 in
theorem ggX3_copyFrom_X0_copyFrom : GoodIn wsX3_copyFrom wsX0_copyFrom := goodIn_r _ [32, 33, 34, 35, 36, 37, 38, 39, 40, 6, 7, 8, 41, 42, 77, 78, 79, 80, 81, 82, 83, 84, 85, 86] (by decide +kernel) (by decide +kernel)
set_option maxRecDepth 20000 in
theorem gX3_copyFrom_X0_copyFrom : GoodIn wsX3_copyFrom (wsV RX3 41 RX0 yX0_copyFrom wsX0_copyFrom) := goodIn_app (goodIn_of _ (by decide +kernel)) ggX3_copyFrom_X0_copyFrom
set_option maxRecDepth 20000 in
theorem ggX3_copyFrom_X4_copyFrom : GoodIn wsX3_copyFrom wsX4_copyFrom := goodIn_r _ [47, 48, 49, 50, 51, 52, 53, 54, 55, 56, 57, 58, 59, 87, 88, 89, 90, 91, 92, 93] (by decide +kernel) (by decide +kernel)
set_option maxRecDepth 20000 in
theorem gX3_copyFrom_X4_copyFrom : GoodIn wsX3_copyFrom (wsV RX3 44 RX4 yX4_copyFrom wsX4_copyFrom) := goodIn_app (goodIn_of _ (by decide +kernel)) ggX3_copyFrom_X4_copyFrom
theorem dX3_copyFrom_0 : decode cX3_copyFrom 0 = .ok (.iconst 0, 1) := by decide +kernel
theorem dX3_copyFrom_1 : decode cX3_copyFrom 1 = .ok (.istore_n 2, 1) := by decide +kernel
theorem dX3_copyFrom_2 : decode cX3_copyFrom 2 = .ok (.iload_n 2, 1) := by decide +kernel
theorem dX3_copyFrom_3 : decode cX3_copyFrom 3 = .ok (.aload_n 0, 1) := by decide +kernel
theorem dX3_copyFrom_4 : decode cX3_copyFrom 4 = .ok (.getfield 11, 3) := by decide +kernel
theorem dX3_copyFrom_7 : decode cX3_copyFrom 7 = .ok (.arraylength, 1) := by decide +kernel
theorem dX3_copyFrom_8 : decode cX3_copyFrom 8 = .ok (.if_icmp .ge 33, 3) := by decide +kernel
theorem dX3_copyFrom_11 : decode cX3_copyFrom 11 = .ok (.iload_n 2, 1) := by decide +kernel
theorem dX3_copyFrom_12 : decode cX3_copyFrom 12 = .ok (.aload_n 1, 1) := by decide +kernel
theorem dX3_copyFrom_13 : decode cX3_copyFrom 13 = .ok (.getfield 11, 3) := by decide +kernel
theorem dX3_copyFrom_16 : decode cX3_copyFrom 16 = .ok (.arraylength, 1) := by decide +kernel
theorem dX3_copyFrom_17 : decode cX3_copyFrom 17 = .ok (.if_icmp .ge 24, 3) := by decide +kernel
theorem dX3_copyFrom_20 : decode cX3_copyFrom 20 = .ok (.aload_n 0, 1) := by decide +kernel
theorem dX3_copyFrom_21 : decode cX3_copyFrom 21 = .ok (.getfield 11, 3) := by decide +kernel
theorem dX3_copyFrom_24 : decode cX3_copyFrom 24 = .ok (.iload_n 2, 1) := by decide +kernel
theorem dX3_copyFrom_25 : decode cX3_copyFrom 25 = .ok (.aaload, 1) := by decide +kernel
theorem dX3_copyFrom_26 : decode cX3_copyFrom 26 = .ok (.aload_n 1, 1) := by decide +kernel
theorem dX3_copyFrom_27 : decode cX3_copyFrom 27 = .ok (.getfield 11, 3) := by decide +kernel
theorem dX3_copyFrom_30 : decode cX3_copyFrom 30 = .ok (.iload_n 2, 1) := by decide +kernel
theorem dX3_copyFrom_31 : decode cX3_copyFrom 31 = .ok (.aaload, 1) := by decide +kernel
theorem dX3_copyFrom_32 : decode cX3_copyFrom 32 = .ok (.invokevirtual 37, 3) := by decide +kernel
theorem dX3_copyFrom_35 : decode cX3_copyFrom 35 = .ok (.iinc 2 1, 3) := by decide +kernel
theorem dX3_copyFrom_38 : decode cX3_copyFrom 38 = .ok (.goto (-36), 3) := by decide +kernel
theorem dX3_copyFrom_41 : decode cX3_copyFrom 41 = .ok (.iconst 0, 1) := by decide +kernel
theorem dX3_copyFrom_42 : decode cX3_copyFrom 42 = .ok (.istore_n 2, 1) := by decide +kernel
theorem dX3_copyFrom_43 : decode cX3_copyFrom 43 = .ok (.iload_n 2, 1) := by decide +kernel
theorem dX3_copyFrom_44 : decode cX3_copyFrom 44 = .ok (.aload_n 0, 1) := by decide +kernel
theorem dX3_copyFrom_45 : decode cX3_copyFrom 45 = .ok (.getfield 19, 3) := by decide +kernel
theorem dX3_copyFrom_48 : decode cX3_copyFrom 48 = .ok (.arraylength, 1) := by decide +kernel
theorem dX3_copyFrom_49 : decode cX3_copyFrom 49 = .ok (.if_icmp .ge 33, 3) := by decide +kernel
theorem dX3_copyFrom_52 : decode cX3_copyFrom 52 = .ok (.iload_n 2, 1) := by decide +kernel
theorem dX3_copyFrom_53 : decode cX3_copyFrom 53 = .ok (.aload_n 1, 1) := by decide +kernel
theorem dX3_copyFrom_54 : decode cX3_copyFrom 54 = .ok (.getfield 19, 3) := by decide +kernel
theorem dX3_copyFrom_57 : decode cX3_copyFrom 57 = .ok (.arraylength, 1) := by decide +kernel
theorem dX3_copyFrom_58 : decode cX3_copyFrom 58 = .ok (.if_icmp .ge 24, 3) := by decide +kernel
theorem dX3_copyFrom_61 : decode cX3_copyFrom 61 = .ok (.aload_n 0, 1) := by decide +kernel
theorem dX3_copyFrom_62 : decode cX3_copyFrom 62 = .ok (.getfield 19, 3) := by decide +kernel
theorem dX3_copyFrom_65 : decode cX3_copyFrom 65 = .ok (.iload_n 2, 1) := by decide +kernel
theorem dX3_copyFrom_66 : decode cX3_copyFrom 66 = .ok (.aaload, 1) := by decide +kernel
theorem dX3_copyFrom_67 : decode cX3_copyFrom 67 = .ok (.aload_n 1, 1) := by decide +kernel
theorem dX3_copyFrom_68 : decode cX3_copyFrom 68 = .ok (.getfield 19, 3) := by decide +kernel
theorem dX3_copyFrom_71 : decode cX3_copyFrom 71 = .ok (.iload_n 2, 1) := by decide +kernel
theorem dX3_copyFrom_72 : decode cX3_copyFrom 72 = .ok (.aaload, 1) := by decide +kernel
theorem dX3_copyFrom_73 : decode cX3_copyFrom 73 = .ok (.invokevirtual 41, 3) := by decide +kernel
theorem dX3_copyFrom_76 : decode cX3_copyFrom 76 = .ok (.iinc 2 1, 3) := by decide +kernel
theorem dX3_copyFrom_79 : decode cX3_copyFrom 79 = .ok (.goto (-36), 3) := by decide +kernel
theorem dX3_copyFrom_82 : decode cX3_copyFrom 82 = .ok (.aload_n 0, 1) := by decide +kernel
theorem dX3_copyFrom_83 : decode cX3_copyFrom 83 = .ok (.getfield 26, 3) := by decide +kernel
theorem dX3_copyFrom_86 : decode cX3_copyFrom 86 = .ok (.aload_n 1, 1) := by decide +kernel
theorem dX3_copyFrom_87 : decode cX3_copyFrom 87 = .ok (.getfield 26, 3) := by decide +kernel
theorem dX3_copyFrom_90 : decode cX3_copyFrom 90 = .ok (.invokevirtual 44, 3) := by decide +kernel
theorem dX3_copyFrom_93 : decode cX3_copyFrom 93 = .ok (.aload_n 1, 1) := by decide +kernel
theorem dX3_copyFrom_94 : decode cX3_copyFrom 94 = .ok (.getfield 31, 3) := by decide +kernel
theorem dX3_copyFrom_97 : decode cX3_copyFrom 97 = .ok (.iconst 0, 1) := by decide +kernel
theorem dX3_copyFrom_98 : decode cX3_copyFrom 98 = .ok (.aload_n 0, 1) := by decide +kernel
theorem dX3_copyFrom_99 : decode cX3_copyFrom 99 = .ok (.getfield 31, 3) := by decide +kernel
theorem dX3_copyFrom_102 : decode cX3_copyFrom 102 = .ok (.iconst 0, 1) := by decide +kernel
theorem dX3_copyFrom_103 : decode cX3_copyFrom 103 = .ok (.iconst 2, 1) := by decide +kernel
theorem dX3_copyFrom_104 : decode cX3_copyFrom 104 = .ok (.invokestatic 47, 3) := by decide +kernel
theorem dX3_copyFrom_107 : decode cX3_copyFrom 107 = .ok (.aload_n 0, 1) := by decide +kernel
theorem dX3_copyFrom_108 : decode cX3_copyFrom 108 = .ok (.aload_n 1, 1) := by decide +kernel
theorem dX3_copyFrom_109 : decode cX3_copyFrom 109 = .ok (.getfield 53, 3) := by decide +kernel
theorem dX3_copyFrom_112 : decode cX3_copyFrom 112 = .ok (.putfield 53, 3) := by decide +kernel
theorem dX3_copyFrom_115 : decode cX3_copyFrom 115 = .ok (.aload_n 0, 1) := by decide +kernel
theorem dX3_copyFrom_116 : decode cX3_copyFrom 116 = .ok (.aload_n 1, 1) := by decide +kernel
theorem dX3_copyFrom_117 : decode cX3_copyFrom 117 = .ok (.getfield 57, 3) := by decide +kernel
theorem dX3_copyFrom_120 : decode cX3_copyFrom 120 = .ok (.putfield 57, 3) := by decide +kernel
theorem dX3_copyFrom_123 : decode cX3_copyFrom 123 = .ok (.aload_n 0, 1) := by decide +kernel
theorem dX3_copyFrom_124 : decode cX3_copyFrom 124 = .ok (.aload_n 1, 1) := by decide +kernel
theorem dX3_copyFrom_125 : decode cX3_copyFrom 125 = .ok (.getfield 60, 3) := by decide +kernel
theorem dX3_copyFrom_128 : decode cX3_copyFrom 128 = .ok (.putfield 60, 3) := by decide +kernel
theorem dX3_copyFrom_131 : decode cX3_copyFrom 131 = .ok (.aload_n 0, 1) := by decide +kernel
theorem dX3_copyFrom_132 : decode cX3_copyFrom 132 = .ok (.aload_n 1, 1) := by decide +kernel
theorem dX3_copyFrom_133 : decode cX3_copyFrom 133 = .ok (.getfield 63, 3) := by decide +kernel
theorem dX3_copyFrom_136 : decode cX3_copyFrom 136 = .ok (.putfield 63, 3) := by decide +kernel
theorem dX3_copyFrom_139 : decode cX3_copyFrom 139 = .ok (.aload_n 0, 1) := by decide +kernel
theorem dX3_copyFrom_140 : decode cX3_copyFrom 140 = .ok (.aload_n 1, 1) := by decide +kernel
theorem dX3_copyFrom_141 : decode cX3_copyFrom 141 = .ok (.getfield 66, 3) := by decide +kernel
theorem dX3_copyFrom_144 : decode cX3_copyFrom 144 = .ok (.putfield 66, 3) := by decide +kernel
theorem dX3_copyFrom_147 : decode cX3_copyFrom 147 = .ok (.aload_n 0, 1) := by decide +kernel
theorem dX3_copyFrom_148 : decode cX3_copyFrom 148 = .ok (.aload_n 1, 1) := by decide +kernel
theorem dX3_copyFrom_149 : decode cX3_copyFrom 149 = .ok (.getfield 69, 3) := by decide +kernel
theorem dX3_copyFrom_152 : decode cX3_copyFrom 152 = .ok (.putfield 69, 3) := by decide +kernel
theorem dX3_copyFrom_155 : decode cX3_copyFrom 155 = .ok (.return_, 1) := by decide +kernel
theorem dX3_roomAt_0 : decode cX3_roomAt 0 = .ok (.iload_n 1, 1) := by decide +kernel
theorem dX3_roomAt_1 : decode cX3_roomAt 1 = .ok (.ifCond .lt 29, 3) := by decide +kernel
theorem dX3_roomAt_4 : decode cX3_roomAt 4 = .ok (.iload_n 1, 1) := by decide +kernel
theorem dX3_roomAt_5 : decode cX3_roomAt 5 = .ok (.aload_n 0, 1) := by decide +kernel
theorem dX3_roomAt_6 : decode cX3_roomAt 6 = .ok (.getfield 53, 3) := by decide +kernel
theorem dX3_roomAt_9 : decode cX3_roomAt 9 = .ok (.if_icmp .ge 21, 3) := by decide +kernel
theorem dX3_roomAt_12 : decode cX3_roomAt 12 = .ok (.iload_n 1, 1) := by decide +kernel
theorem dX3_roomAt_13 : decode cX3_roomAt 13 = .ok (.aload_n 0, 1) := by decide +kernel
theorem dX3_roomAt_14 : decode cX3_roomAt 14 = .ok (.getfield 11, 3) := by decide +kernel
theorem dX3_roomAt_17 : decode cX3_roomAt 17 = .ok (.arraylength, 1) := by decide +kernel
theorem dX3_roomAt_18 : decode cX3_roomAt 18 = .ok (.if_icmp .ge 12, 3) := by decide +kernel
theorem dX3_roomAt_21 : decode cX3_roomAt 21 = .ok (.aload_n 0, 1) := by decide +kernel
theorem dX3_roomAt_22 : decode cX3_roomAt 22 = .ok (.getfield 11, 3) := by decide +kernel
theorem dX3_roomAt_25 : decode cX3_roomAt 25 = .ok (.iload_n 1, 1) := by decide +kernel
theorem dX3_roomAt_26 : decode cX3_roomAt 26 = .ok (.aaload, 1) := by decide +kernel
theorem dX3_roomAt_27 : decode cX3_roomAt 27 = .ok (.goto 4, 3) := by decide +kernel
theorem dX3_roomAt_30 : decode cX3_roomAt 30 = .ok (.aconst_null, 1) := by decide +kernel
theorem dX3_roomAt_31 : decode cX3_roomAt 31 = .ok (.areturn, 1) := by decide +kernel
theorem dX3_doorAt_0 : decode cX3_doorAt 0 = .ok (.iload_n 1, 1) := by decide +kernel
theorem dX3_doorAt_1 : decode cX3_doorAt 1 = .ok (.ifCond .lt 29, 3) := by decide +kernel
theorem dX3_doorAt_4 : decode cX3_doorAt 4 = .ok (.iload_n 1, 1) := by decide +kernel
theorem dX3_doorAt_5 : decode cX3_doorAt 5 = .ok (.aload_n 0, 1) := by decide +kernel
theorem dX3_doorAt_6 : decode cX3_doorAt 6 = .ok (.getfield 57, 3) := by decide +kernel
theorem dX3_doorAt_9 : decode cX3_doorAt 9 = .ok (.if_icmp .ge 21, 3) := by decide +kernel
theorem dX3_doorAt_12 : decode cX3_doorAt 12 = .ok (.iload_n 1, 1) := by decide +kernel
theorem dX3_doorAt_13 : decode cX3_doorAt 13 = .ok (.aload_n 0, 1) := by decide +kernel
theorem dX3_doorAt_14 : decode cX3_doorAt 14 = .ok (.getfield 19, 3) := by decide +kernel
theorem dX3_doorAt_17 : decode cX3_doorAt 17 = .ok (.arraylength, 1) := by decide +kernel
theorem dX3_doorAt_18 : decode cX3_doorAt 18 = .ok (.if_icmp .ge 12, 3) := by decide +kernel
theorem dX3_doorAt_21 : decode cX3_doorAt 21 = .ok (.aload_n 0, 1) := by decide +kernel
theorem dX3_doorAt_22 : decode cX3_doorAt 22 = .ok (.getfield 19, 3) := by decide +kernel
theorem dX3_doorAt_25 : decode cX3_doorAt 25 = .ok (.iload_n 1, 1) := by decide +kernel
theorem dX3_doorAt_26 : decode cX3_doorAt 26 = .ok (.aaload, 1) := by decide +kernel
theorem dX3_doorAt_27 : decode cX3_doorAt 27 = .ok (.goto 4, 3) := by decide +kernel
theorem dX3_doorAt_30 : decode cX3_doorAt 30 = .ok (.aconst_null, 1) := by decide +kernel
theorem dX3_doorAt_31 : decode cX3_doorAt 31 = .ok (.areturn, 1) := by decide +kernel
set_option maxRecDepth 20000 in
theorem ggX3_addRoom_X5_begin : GoodIn wsX3_addRoom wsX5_begin := goodIn_r _ [8, 9, 10, 11, 22, 23, 24, 25, 26, 27, 28] (by decide +kernel) (by decide +kernel)
set_option maxRecDepth 20000 in
theorem gX3_addRoom_X5_begin : GoodIn wsX3_addRoom (wsV RX3 72 RX5 yX5_begin wsX5_begin) := goodIn_app (goodIn_of _ (by decide +kernel)) ggX3_addRoom_X5_begin
theorem dX3_addRoom_0 : decode cX3_addRoom 0 = .ok (.aload_n 0, 1) := by decide +kernel
theorem dX3_addRoom_1 : decode cX3_addRoom 1 = .ok (.getfield 53, 3) := by decide +kernel
theorem dX3_addRoom_4 : decode cX3_addRoom 4 = .ok (.ifCond .lt 15, 3) := by decide +kernel
theorem dX3_addRoom_7 : decode cX3_addRoom 7 = .ok (.aload_n 0, 1) := by decide +kernel
theorem dX3_addRoom_8 : decode cX3_addRoom 8 = .ok (.getfield 53, 3) := by decide +kernel
theorem dX3_addRoom_11 : decode cX3_addRoom 11 = .ok (.aload_n 0, 1) := by decide +kernel
theorem dX3_addRoom_12 : decode cX3_addRoom 12 = .ok (.getfield 11, 3) := by decide +kernel
theorem dX3_addRoom_15 : decode cX3_addRoom 15 = .ok (.arraylength, 1) := by decide +kernel
theorem dX3_addRoom_16 : decode cX3_addRoom 16 = .ok (.if_icmp .lt 6, 3) := by decide +kernel
theorem dX3_addRoom_19 : decode cX3_addRoom 19 = .ok (.bipush (-3), 2) := by decide +kernel
theorem dX3_addRoom_21 : decode cX3_addRoom 21 = .ok (.ireturn, 1) := by decide +kernel
theorem dX3_addRoom_22 : decode cX3_addRoom 22 = .ok (.aload_n 0, 1) := by decide +kernel
theorem dX3_addRoom_23 : decode cX3_addRoom 23 = .ok (.getfield 11, 3) := by decide +kernel
theorem dX3_addRoom_26 : decode cX3_addRoom 26 = .ok (.aload_n 0, 1) := by decide +kernel
theorem dX3_addRoom_27 : decode cX3_addRoom 27 = .ok (.getfield 53, 3) := by decide +kernel
theorem dX3_addRoom_30 : decode cX3_addRoom 30 = .ok (.aaload, 1) := by decide +kernel
theorem dX3_addRoom_31 : decode cX3_addRoom 31 = .ok (.iload_n 1, 1) := by decide +kernel
theorem dX3_addRoom_32 : decode cX3_addRoom 32 = .ok (.iload_n 2, 1) := by decide +kernel
theorem dX3_addRoom_33 : decode cX3_addRoom 33 = .ok (.aload_n 0, 1) := by decide +kernel
theorem dX3_addRoom_34 : decode cX3_addRoom 34 = .ok (.getfield 60, 3) := by decide +kernel
theorem dX3_addRoom_37 : decode cX3_addRoom 37 = .ok (.invokevirtual 72, 3) := by decide +kernel
theorem dX3_addRoom_40 : decode cX3_addRoom 40 = .ok (.aload_n 0, 1) := by decide +kernel
theorem dX3_addRoom_41 : decode cX3_addRoom 41 = .ok (.dup, 1) := by decide +kernel
theorem dX3_addRoom_42 : decode cX3_addRoom 42 = .ok (.getfield 53, 3) := by decide +kernel
theorem dX3_addRoom_45 : decode cX3_addRoom 45 = .ok (.dup_x1, 1) := by decide +kernel
theorem dX3_addRoom_46 : decode cX3_addRoom 46 = .ok (.iconst 1, 1) := by decide +kernel
theorem dX3_addRoom_47 : decode cX3_addRoom 47 = .ok (.iadd, 1) := by decide +kernel
theorem dX3_addRoom_48 : decode cX3_addRoom 48 = .ok (.putfield 53, 3) := by decide +kernel
theorem dX3_addRoom_51 : decode cX3_addRoom 51 = .ok (.ireturn, 1) := by decide +kernel
set_option maxRecDepth 20000 in
theorem ggX3_addDoor_X0_begin : GoodIn wsX3_addDoor wsX0_begin := goodIn_r _ [7, 8, 9, 10, 11, 22, 23, 24, 25, 26, 27, 28, 29, 30, 31] (by decide +kernel) (by decide +kernel)
set_option maxRecDepth 20000 in
theorem gX3_addDoor_X0_begin : GoodIn wsX3_addDoor (wsV RX3 76 RX0 yX0_begin wsX0_begin) := goodIn_app (goodIn_of _ (by decide +kernel)) ggX3_addDoor_X0_begin
theorem dX3_addDoor_0 : decode cX3_addDoor 0 = .ok (.aload_n 0, 1) := by decide +kernel
theorem dX3_addDoor_1 : decode cX3_addDoor 1 = .ok (.getfield 57, 3) := by decide +kernel
theorem dX3_addDoor_4 : decode cX3_addDoor 4 = .ok (.ifCond .lt 15, 3) := by decide +kernel
theorem dX3_addDoor_7 : decode cX3_addDoor 7 = .ok (.aload_n 0, 1) := by decide +kernel
theorem dX3_addDoor_8 : decode cX3_addDoor 8 = .ok (.getfield 57, 3) := by decide +kernel
theorem dX3_addDoor_11 : decode cX3_addDoor 11 = .ok (.aload_n 0, 1) := by decide +kernel
theorem dX3_addDoor_12 : decode cX3_addDoor 12 = .ok (.getfield 19, 3) := by decide +kernel
theorem dX3_addDoor_15 : decode cX3_addDoor 15 = .ok (.arraylength, 1) := by decide +kernel
theorem dX3_addDoor_16 : decode cX3_addDoor 16 = .ok (.if_icmp .lt 6, 3) := by decide +kernel
theorem dX3_addDoor_19 : decode cX3_addDoor 19 = .ok (.bipush (-3), 2) := by decide +kernel
theorem dX3_addDoor_21 : decode cX3_addDoor 21 = .ok (.ireturn, 1) := by decide +kernel
theorem dX3_addDoor_22 : decode cX3_addDoor 22 = .ok (.aload_n 0, 1) := by decide +kernel
theorem dX3_addDoor_23 : decode cX3_addDoor 23 = .ok (.getfield 19, 3) := by decide +kernel
theorem dX3_addDoor_26 : decode cX3_addDoor 26 = .ok (.aload_n 0, 1) := by decide +kernel
theorem dX3_addDoor_27 : decode cX3_addDoor 27 = .ok (.getfield 57, 3) := by decide +kernel
theorem dX3_addDoor_30 : decode cX3_addDoor 30 = .ok (.aaload, 1) := by decide +kernel
theorem dX3_addDoor_31 : decode cX3_addDoor 31 = .ok (.astore 6, 2) := by decide +kernel
theorem dX3_addDoor_33 : decode cX3_addDoor 33 = .ok (.aload 6, 2) := by decide +kernel
theorem dX3_addDoor_35 : decode cX3_addDoor 35 = .ok (.iload_n 1, 1) := by decide +kernel
theorem dX3_addDoor_36 : decode cX3_addDoor 36 = .ok (.iload_n 2, 1) := by decide +kernel
theorem dX3_addDoor_37 : decode cX3_addDoor 37 = .ok (.iload_n 3, 1) := by decide +kernel
theorem dX3_addDoor_38 : decode cX3_addDoor 38 = .ok (.iload 4, 2) := by decide +kernel
theorem dX3_addDoor_40 : decode cX3_addDoor 40 = .ok (.iload 5, 2) := by decide +kernel
theorem dX3_addDoor_42 : decode cX3_addDoor 42 = .ok (.invokevirtual 76, 3) := by decide +kernel
theorem dX3_addDoor_45 : decode cX3_addDoor 45 = .ok (.aload_n 0, 1) := by decide +kernel
theorem dX3_addDoor_46 : decode cX3_addDoor 46 = .ok (.dup, 1) := by decide +kernel
theorem dX3_addDoor_47 : decode cX3_addDoor 47 = .ok (.getfield 57, 3) := by decide +kernel
theorem dX3_addDoor_50 : decode cX3_addDoor 50 = .ok (.dup_x1, 1) := by decide +kernel
theorem dX3_addDoor_51 : decode cX3_addDoor 51 = .ok (.iconst 1, 1) := by decide +kernel
theorem dX3_addDoor_52 : decode cX3_addDoor 52 = .ok (.iadd, 1) := by decide +kernel
theorem dX3_addDoor_53 : decode cX3_addDoor 53 = .ok (.putfield 57, 3) := by decide +kernel
theorem dX3_addDoor_56 : decode cX3_addDoor 56 = .ok (.ireturn, 1) := by decide +kernel
set_option maxRecDepth 20000 in
theorem ggX3_hasWallFor_X3_roomAt : GoodIn wsX3_hasWallFor wsX3_roomAt := goodIn_r _ [8, 9, 10, 18, 19, 20, 21, 22, 23, 24, 25, 26, 27] (by decide +kernel) (by decide +kernel)
set_option maxRecDepth 20000 in
theorem gX3_hasWallFor_X3_roomAt : GoodIn wsX3_hasWallFor (wsV RX3 79 RX3 yX3_roomAt wsX3_roomAt) := goodIn_app (goodIn_of _ (by decide +kernel)) ggX3_hasWallFor_X3_roomAt
set_option maxRecDepth 20000 in
theorem ggX3_hasWallFor_X0_isAt : GoodIn wsX3_hasWallFor wsX0_isAt := goodIn_r _ [15, 16, 17, 28, 29, 30, 31, 32, 33, 34, 35, 36, 37] (by decide +kernel) (by decide +kernel)
set_option maxRecDepth 20000 in
theorem gX3_hasWallFor_X0_isAt : GoodIn wsX3_hasWallFor (wsV RX3 83 RX0 yX0_isAt wsX0_isAt) := goodIn_app (goodIn_of _ (by decide +kernel)) ggX3_hasWallFor_X0_isAt
theorem dX3_hasWallFor_0 : decode cX3_hasWallFor 0 = .ok (.aload_n 0, 1) := by decide +kernel
theorem dX3_hasWallFor_1 : decode cX3_hasWallFor 1 = .ok (.iload_n 1, 1) := by decide +kernel
theorem dX3_hasWallFor_2 : decode cX3_hasWallFor 2 = .ok (.invokevirtual 79, 3) := by decide +kernel
theorem dX3_hasWallFor_5 : decode cX3_hasWallFor 5 = .ok (.astore_n 3, 1) := by decide +kernel
theorem dX3_hasWallFor_6 : decode cX3_hasWallFor 6 = .ok (.aload_n 3, 1) := by decide +kernel
theorem dX3_hasWallFor_7 : decode cX3_hasWallFor 7 = .ok (.ifnonnull 5, 3) := by decide +kernel
theorem dX3_hasWallFor_10 : decode cX3_hasWallFor 10 = .ok (.iconst 1, 1) := by decide +kernel
theorem dX3_hasWallFor_11 : decode cX3_hasWallFor 11 = .ok (.ireturn, 1) := by decide +kernel
theorem dX3_hasWallFor_12 : decode cX3_hasWallFor 12 = .ok (.iload_n 2, 1) := by decide +kernel
theorem dX3_hasWallFor_13 : decode cX3_hasWallFor 13 = .ok (.istore 4, 2) := by decide +kernel
theorem dX3_hasWallFor_15 : decode cX3_hasWallFor 15 = .ok (.aload_n 0, 1) := by decide +kernel
theorem dX3_hasWallFor_16 : decode cX3_hasWallFor 16 = .ok (.getfield 19, 3) := by decide +kernel
theorem dX3_hasWallFor_19 : decode cX3_hasWallFor 19 = .ok (.astore 5, 2) := by decide +kernel
theorem dX3_hasWallFor_21 : decode cX3_hasWallFor 21 = .ok (.aload 5, 2) := by decide +kernel
theorem dX3_hasWallFor_23 : decode cX3_hasWallFor 23 = .ok (.arraylength, 1) := by decide +kernel
theorem dX3_hasWallFor_24 : decode cX3_hasWallFor 24 = .ok (.istore 6, 2) := by decide +kernel
theorem dX3_hasWallFor_26 : decode cX3_hasWallFor 26 = .ok (.iconst 0, 1) := by decide +kernel
theorem dX3_hasWallFor_27 : decode cX3_hasWallFor 27 = .ok (.istore 7, 2) := by decide +kernel
theorem dX3_hasWallFor_29 : decode cX3_hasWallFor 29 = .ok (.iload 7, 2) := by decide +kernel
theorem dX3_hasWallFor_31 : decode cX3_hasWallFor 31 = .ok (.iload 6, 2) := by decide +kernel
theorem dX3_hasWallFor_33 : decode cX3_hasWallFor 33 = .ok (.if_icmp .ge 39, 3) := by decide +kernel
theorem dX3_hasWallFor_36 : decode cX3_hasWallFor 36 = .ok (.aload 5, 2) := by decide +kernel
theorem dX3_hasWallFor_38 : decode cX3_hasWallFor 38 = .ok (.iload 7, 2) := by decide +kernel
theorem dX3_hasWallFor_40 : decode cX3_hasWallFor 40 = .ok (.aaload, 1) := by decide +kernel
theorem dX3_hasWallFor_41 : decode cX3_hasWallFor 41 = .ok (.astore 8, 2) := by decide +kernel
theorem dX3_hasWallFor_43 : decode cX3_hasWallFor 43 = .ok (.iload 4, 2) := by decide +kernel
theorem dX3_hasWallFor_45 : decode cX3_hasWallFor 45 = .ok (.aload 8, 2) := by decide +kernel
theorem dX3_hasWallFor_47 : decode cX3_hasWallFor 47 = .ok (.iload_n 1, 1) := by decide +kernel
theorem dX3_hasWallFor_48 : decode cX3_hasWallFor 48 = .ok (.invokevirtual 83, 3) := by decide +kernel
theorem dX3_hasWallFor_51 : decode cX3_hasWallFor 51 = .ok (.ifCond .eq 11, 3) := by decide +kernel
theorem dX3_hasWallFor_54 : decode cX3_hasWallFor 54 = .ok (.aload 8, 2) := by decide +kernel
theorem dX3_hasWallFor_56 : decode cX3_hasWallFor 56 = .ok (.getfield 87, 3) := by decide +kernel
theorem dX3_hasWallFor_59 : decode cX3_hasWallFor 59 = .ok (.goto 4, 3) := by decide +kernel
theorem dX3_hasWallFor_62 : decode cX3_hasWallFor 62 = .ok (.iconst 0, 1) := by decide +kernel
theorem dX3_hasWallFor_63 : decode cX3_hasWallFor 63 = .ok (.iadd, 1) := by decide +kernel
theorem dX3_hasWallFor_64 : decode cX3_hasWallFor 64 = .ok (.istore 4, 2) := by decide +kernel
theorem dX3_hasWallFor_66 : decode cX3_hasWallFor 66 = .ok (.iinc 7 1, 3) := by decide +kernel
theorem dX3_hasWallFor_69 : decode cX3_hasWallFor 69 = .ok (.goto (-40), 3) := by decide +kernel
theorem dX3_hasWallFor_72 : decode cX3_hasWallFor 72 = .ok (.iload 4, 2) := by decide +kernel
theorem dX3_hasWallFor_74 : decode cX3_hasWallFor 74 = .ok (.aload_n 3, 1) := by decide +kernel
theorem dX3_hasWallFor_75 : decode cX3_hasWallFor 75 = .ok (.getfield 90, 3) := by decide +kernel
theorem dX3_hasWallFor_78 : decode cX3_hasWallFor 78 = .ok (.if_icmp .gt 7, 3) := by decide +kernel
theorem dX3_hasWallFor_81 : decode cX3_hasWallFor 81 = .ok (.iconst 1, 1) := by decide +kernel
theorem dX3_hasWallFor_82 : decode cX3_hasWallFor 82 = .ok (.goto 4, 3) := by decide +kernel
theorem dX3_hasWallFor_85 : decode cX3_hasWallFor 85 = .ok (.iconst 0, 1) := by decide +kernel
theorem dX3_hasWallFor_86 : decode cX3_hasWallFor 86 = .ok (.ireturn, 1) := by decide +kernel
set_option maxRecDepth 20000 in
theorem ggX3_doorsOf_X0_isAt : GoodIn wsX3_doorsOf wsX0_isAt := goodIn_r _ [6, 7, 8, 19, 20, 21, 22, 23, 24, 25, 26, 27, 28] (by decide +kernel) (by decide +kernel)
set_option maxRecDepth 20000 in
theorem gX3_doorsOf_X0_isAt : GoodIn wsX3_doorsOf (wsV RX3 83 RX0 yX0_isAt wsX0_isAt) := goodIn_app (goodIn_of _ (by decide +kernel)) ggX3_doorsOf_X0_isAt
theorem dX3_doorsOf_0 : decode cX3_doorsOf 0 = .ok (.iconst 0, 1) := by decide +kernel
theorem dX3_doorsOf_1 : decode cX3_doorsOf 1 = .ok (.istore_n 2, 1) := by decide +kernel
theorem dX3_doorsOf_2 : decode cX3_doorsOf 2 = .ok (.aload_n 0, 1) := by decide +kernel
theorem dX3_doorsOf_3 : decode cX3_doorsOf 3 = .ok (.getfield 19, 3) := by decide +kernel
theorem dX3_doorsOf_6 : decode cX3_doorsOf 6 = .ok (.astore_n 3, 1) := by decide +kernel
theorem dX3_doorsOf_7 : decode cX3_doorsOf 7 = .ok (.aload_n 3, 1) := by decide +kernel
theorem dX3_doorsOf_8 : decode cX3_doorsOf 8 = .ok (.arraylength, 1) := by decide +kernel
theorem dX3_doorsOf_9 : decode cX3_doorsOf 9 = .ok (.istore 4, 2) := by decide +kernel
theorem dX3_doorsOf_11 : decode cX3_doorsOf 11 = .ok (.iconst 0, 1) := by decide +kernel
theorem dX3_doorsOf_12 : decode cX3_doorsOf 12 = .ok (.istore 5, 2) := by decide +kernel
theorem dX3_doorsOf_14 : decode cX3_doorsOf 14 = .ok (.iload 5, 2) := by decide +kernel
theorem dX3_doorsOf_16 : decode cX3_doorsOf 16 = .ok (.iload 4, 2) := by decide +kernel
theorem dX3_doorsOf_18 : decode cX3_doorsOf 18 = .ok (.if_icmp .ge 32, 3) := by decide +kernel
theorem dX3_doorsOf_21 : decode cX3_doorsOf 21 = .ok (.aload_n 3, 1) := by decide +kernel
theorem dX3_doorsOf_22 : decode cX3_doorsOf 22 = .ok (.iload 5, 2) := by decide +kernel
theorem dX3_doorsOf_24 : decode cX3_doorsOf 24 = .ok (.aaload, 1) := by decide +kernel
theorem dX3_doorsOf_25 : decode cX3_doorsOf 25 = .ok (.astore 6, 2) := by decide +kernel
theorem dX3_doorsOf_27 : decode cX3_doorsOf 27 = .ok (.iload_n 2, 1) := by decide +kernel
theorem dX3_doorsOf_28 : decode cX3_doorsOf 28 = .ok (.aload 6, 2) := by decide +kernel
theorem dX3_doorsOf_30 : decode cX3_doorsOf 30 = .ok (.iload_n 1, 1) := by decide +kernel
theorem dX3_doorsOf_31 : decode cX3_doorsOf 31 = .ok (.invokevirtual 83, 3) := by decide +kernel
theorem dX3_doorsOf_34 : decode cX3_doorsOf 34 = .ok (.ifCond .eq 7, 3) := by decide +kernel
theorem dX3_doorsOf_37 : decode cX3_doorsOf 37 = .ok (.iconst 1, 1) := by decide +kernel
theorem dX3_doorsOf_38 : decode cX3_doorsOf 38 = .ok (.goto 4, 3) := by decide +kernel
theorem dX3_doorsOf_41 : decode cX3_doorsOf 41 = .ok (.iconst 0, 1) := by decide +kernel
theorem dX3_doorsOf_42 : decode cX3_doorsOf 42 = .ok (.iadd, 1) := by decide +kernel
theorem dX3_doorsOf_43 : decode cX3_doorsOf 43 = .ok (.istore_n 2, 1) := by decide +kernel
theorem dX3_doorsOf_44 : decode cX3_doorsOf 44 = .ok (.iinc 5 1, 3) := by decide +kernel
theorem dX3_doorsOf_47 : decode cX3_doorsOf 47 = .ok (.goto (-33), 3) := by decide +kernel
theorem dX3_doorsOf_50 : decode cX3_doorsOf 50 = .ok (.iload_n 2, 1) := by decide +kernel
theorem dX3_doorsOf_51 : decode cX3_doorsOf 51 = .ok (.ireturn, 1) := by decide +kernel
set_option maxRecDepth 20000 in
theorem ggX3_reasonToRefuse_X3_densityAt : GoodIn wsX3_reasonToRefuse wsX3_densityAt := goodIn_r _ [14, 15, 16, 17, 13, 18, 19, 20, 21, 22, 23, 24, 25, 26, 27, 38, 39, 40, 41, 42, 43, 44, 45, 46, 47, 48, 49, 50, 51, 52, 53, 54] (by decide +kernel) (by decide +kernel)
set_option maxRecDepth 20000 in
theorem gX3_reasonToRefuse_X3_densityAt : GoodIn wsX3_reasonToRefuse (wsV RX3 103 RX3 yX3_densityAt wsX3_densityAt) := goodIn_app (goodIn_of _ (by decide +kernel)) ggX3_reasonToRefuse_X3_densityAt
theorem dX3_reasonToRefuse_0 : decode cX3_reasonToRefuse 0 = .ok (.aload_n 1, 1) := by decide +kernel
theorem dX3_reasonToRefuse_1 : decode cX3_reasonToRefuse 1 = .ok (.getfield 93, 3) := by decide +kernel
theorem dX3_reasonToRefuse_4 : decode cX3_reasonToRefuse 4 = .ok (.ifCond .eq 5, 3) := by decide +kernel
theorem dX3_reasonToRefuse_7 : decode cX3_reasonToRefuse 7 = .ok (.iconst 1, 1) := by decide +kernel
theorem dX3_reasonToRefuse_8 : decode cX3_reasonToRefuse 8 = .ok (.ireturn, 1) := by decide +kernel
theorem dX3_reasonToRefuse_9 : decode cX3_reasonToRefuse 9 = .ok (.aload_n 1, 1) := by decide +kernel
theorem dX3_reasonToRefuse_10 : decode cX3_reasonToRefuse 10 = .ok (.getfield 97, 3) := by decide +kernel
theorem dX3_reasonToRefuse_13 : decode cX3_reasonToRefuse 13 = .ok (.iload_n 2, 1) := by decide +kernel
theorem dX3_reasonToRefuse_14 : decode cX3_reasonToRefuse 14 = .ok (.if_icmp .ne 5, 3) := by decide +kernel
theorem dX3_reasonToRefuse_17 : decode cX3_reasonToRefuse 17 = .ok (.iconst 2, 1) := by decide +kernel
theorem dX3_reasonToRefuse_18 : decode cX3_reasonToRefuse 18 = .ok (.ireturn, 1) := by decide +kernel
theorem dX3_reasonToRefuse_19 : decode cX3_reasonToRefuse 19 = .ok (.aload_n 0, 1) := by decide +kernel
theorem dX3_reasonToRefuse_20 : decode cX3_reasonToRefuse 20 = .ok (.aload_n 1, 1) := by decide +kernel
theorem dX3_reasonToRefuse_21 : decode cX3_reasonToRefuse 21 = .ok (.getfield 100, 3) := by decide +kernel
theorem dX3_reasonToRefuse_24 : decode cX3_reasonToRefuse 24 = .ok (.iconst 0, 1) := by decide +kernel
theorem dX3_reasonToRefuse_25 : decode cX3_reasonToRefuse 25 = .ok (.iaload, 1) := by decide +kernel
theorem dX3_reasonToRefuse_26 : decode cX3_reasonToRefuse 26 = .ok (.invokevirtual 103, 3) := by decide +kernel
theorem dX3_reasonToRefuse_29 : decode cX3_reasonToRefuse 29 = .ok (.aload_n 0, 1) := by decide +kernel
theorem dX3_reasonToRefuse_30 : decode cX3_reasonToRefuse 30 = .ok (.aload_n 1, 1) := by decide +kernel
theorem dX3_reasonToRefuse_31 : decode cX3_reasonToRefuse 31 = .ok (.getfield 100, 3) := by decide +kernel
theorem dX3_reasonToRefuse_34 : decode cX3_reasonToRefuse 34 = .ok (.iconst 1, 1) := by decide +kernel
theorem dX3_reasonToRefuse_35 : decode cX3_reasonToRefuse 35 = .ok (.iaload, 1) := by decide +kernel
theorem dX3_reasonToRefuse_36 : decode cX3_reasonToRefuse 36 = .ok (.invokevirtual 103, 3) := by decide +kernel
theorem dX3_reasonToRefuse_39 : decode cX3_reasonToRefuse 39 = .ok (.isub, 1) := by decide +kernel
theorem dX3_reasonToRefuse_40 : decode cX3_reasonToRefuse 40 = .ok (.invokestatic 107, 3) := by decide +kernel
theorem dX3_reasonToRefuse_43 : decode cX3_reasonToRefuse 43 = .ok (.istore_n 3, 1) := by decide +kernel
theorem dX3_reasonToRefuse_44 : decode cX3_reasonToRefuse 44 = .ok (.iload_n 2, 1) := by decide +kernel
theorem dX3_reasonToRefuse_45 : decode cX3_reasonToRefuse 45 = .ok (.aload_n 1, 1) := by decide +kernel
theorem dX3_reasonToRefuse_46 : decode cX3_reasonToRefuse 46 = .ok (.getfield 112, 3) := by decide +kernel
theorem dX3_reasonToRefuse_49 : decode cX3_reasonToRefuse 49 = .ok (.if_icmp .le 15, 3) := by decide +kernel
theorem dX3_reasonToRefuse_52 : decode cX3_reasonToRefuse 52 = .ok (.iload_n 3, 1) := by decide +kernel
theorem dX3_reasonToRefuse_53 : decode cX3_reasonToRefuse 53 = .ok (.aload_n 0, 1) := by decide +kernel
theorem dX3_reasonToRefuse_54 : decode cX3_reasonToRefuse 54 = .ok (.getfield 31, 3) := by decide +kernel
theorem dX3_reasonToRefuse_57 : decode cX3_reasonToRefuse 57 = .ok (.iconst 0, 1) := by decide +kernel
theorem dX3_reasonToRefuse_58 : decode cX3_reasonToRefuse 58 = .ok (.iaload, 1) := by decide +kernel
theorem dX3_reasonToRefuse_59 : decode cX3_reasonToRefuse 59 = .ok (.if_icmp .le 5, 3) := by decide +kernel
theorem dX3_reasonToRefuse_62 : decode cX3_reasonToRefuse 62 = .ok (.iconst 3, 1) := by decide +kernel
theorem dX3_reasonToRefuse_63 : decode cX3_reasonToRefuse 63 = .ok (.ireturn, 1) := by decide +kernel
theorem dX3_reasonToRefuse_64 : decode cX3_reasonToRefuse 64 = .ok (.iconst 0, 1) := by decide +kernel
theorem dX3_reasonToRefuse_65 : decode cX3_reasonToRefuse 65 = .ok (.ireturn, 1) := by decide +kernel
set_option maxRecDepth 20000 in
theorem ggX3_wouldStayAimed_X3_doorAt : GoodIn wsX3_wouldStayAimed wsX3_doorAt := goodIn_r _ [7, 8, 9, 20, 21, 22, 23, 24, 25, 26, 27, 28, 29] (by decide +kernel) (by decide +kernel)
set_option maxRecDepth 20000 in
theorem gX3_wouldStayAimed_X3_doorAt : GoodIn wsX3_wouldStayAimed (wsV RX3 115 RX3 yX3_doorAt wsX3_doorAt) := goodIn_app (goodIn_of _ (by decide +kernel)) ggX3_wouldStayAimed_X3_doorAt
theorem dX3_wouldStayAimed_0 : decode cX3_wouldStayAimed 0 = .ok (.aload_n 0, 1) := by decide +kernel
theorem dX3_wouldStayAimed_1 : decode cX3_wouldStayAimed 1 = .ok (.iload_n 1, 1) := by decide +kernel
theorem dX3_wouldStayAimed_2 : decode cX3_wouldStayAimed 2 = .ok (.invokevirtual 115, 3) := by decide +kernel
theorem dX3_wouldStayAimed_5 : decode cX3_wouldStayAimed 5 = .ok (.astore_n 3, 1) := by decide +kernel
theorem dX3_wouldStayAimed_6 : decode cX3_wouldStayAimed 6 = .ok (.aload_n 3, 1) := by decide +kernel
theorem dX3_wouldStayAimed_7 : decode cX3_wouldStayAimed 7 = .ok (.ifnull 18, 3) := by decide +kernel
theorem dX3_wouldStayAimed_10 : decode cX3_wouldStayAimed 10 = .ok (.aload_n 3, 1) := by decide +kernel
theorem dX3_wouldStayAimed_11 : decode cX3_wouldStayAimed 11 = .ok (.getfield 93, 3) := by decide +kernel
theorem dX3_wouldStayAimed_14 : decode cX3_wouldStayAimed 14 = .ok (.ifCond .ne 11, 3) := by decide +kernel
theorem dX3_wouldStayAimed_17 : decode cX3_wouldStayAimed 17 = .ok (.aload_n 3, 1) := by decide +kernel
theorem dX3_wouldStayAimed_18 : decode cX3_wouldStayAimed 18 = .ok (.getfield 97, 3) := by decide +kernel
theorem dX3_wouldStayAimed_21 : decode cX3_wouldStayAimed 21 = .ok (.iload_n 2, 1) := by decide +kernel
theorem dX3_wouldStayAimed_22 : decode cX3_wouldStayAimed 22 = .ok (.if_icmp .ne 7, 3) := by decide +kernel
theorem dX3_wouldStayAimed_25 : decode cX3_wouldStayAimed 25 = .ok (.iconst 1, 1) := by decide +kernel
theorem dX3_wouldStayAimed_26 : decode cX3_wouldStayAimed 26 = .ok (.goto 4, 3) := by decide +kernel
theorem dX3_wouldStayAimed_29 : decode cX3_wouldStayAimed 29 = .ok (.iconst 0, 1) := by decide +kernel
theorem dX3_wouldStayAimed_30 : decode cX3_wouldStayAimed 30 = .ok (.ireturn, 1) := by decide +kernel
set_option maxRecDepth 20000 in
theorem ggX3_densityAt_X3_roomAt : GoodIn wsX3_densityAt wsX3_roomAt := goodIn_r _ [5, 6, 7, 15, 16, 17, 18, 19, 20, 21, 22, 23, 24] (by decide +kernel) (by decide +kernel)
set_option maxRecDepth 20000 in
theorem gX3_densityAt_X3_roomAt : GoodIn wsX3_densityAt (wsV RX3 79 RX3 yX3_roomAt wsX3_roomAt) := goodIn_app (goodIn_of _ (by decide +kernel)) ggX3_densityAt_X3_roomAt
set_option maxRecDepth 20000 in
theorem ggX3_densityAt_X5_density : GoodIn wsX3_densityAt wsX5_density := goodIn_r _ [12, 13, 14, 25, 26, 27, 28, 29, 30, 31] (by decide +kernel) (by decide +kernel)
set_option maxRecDepth 20000 in
theorem gX3_densityAt_X5_density : GoodIn wsX3_densityAt (wsV RX3 119 RX5 yX5_density wsX5_density) := goodIn_app (goodIn_of _ (by decide +kernel)) ggX3_densityAt_X5_density
theorem dX3_densityAt_0 : decode cX3_densityAt 0 = .ok (.aload_n 0, 1) := by decide +kernel
theorem dX3_densityAt_1 : decode cX3_densityAt 1 = .ok (.iload_n 1, 1) := by decide +kernel
theorem dX3_densityAt_2 : decode cX3_densityAt 2 = .ok (.invokevirtual 79, 3) := by decide +kernel
theorem dX3_densityAt_5 : decode cX3_densityAt 5 = .ok (.astore_n 2, 1) := by decide +kernel
theorem dX3_densityAt_6 : decode cX3_densityAt 6 = .ok (.aload_n 2, 1) := by decide +kernel
theorem dX3_densityAt_7 : decode cX3_densityAt 7 = .ok (.ifnonnull 7, 3) := by decide +kernel
theorem dX3_densityAt_10 : decode cX3_densityAt 10 = .ok (.iconst 0, 1) := by decide +kernel
theorem dX3_densityAt_11 : decode cX3_densityAt 11 = .ok (.goto 7, 3) := by decide +kernel
theorem dX3_densityAt_14 : decode cX3_densityAt 14 = .ok (.aload_n 2, 1) := by decide +kernel
theorem dX3_densityAt_15 : decode cX3_densityAt 15 = .ok (.invokevirtual 119, 3) := by decide +kernel
theorem dX3_densityAt_18 : decode cX3_densityAt 18 = .ok (.ireturn, 1) := by decide +kernel
set_option maxRecDepth 20000 in
theorem ggX3_energyIn_X3_roomAt : GoodIn wsX3_energyIn wsX3_roomAt := goodIn_r _ [6, 7, 8, 16, 17, 18, 19, 20, 21, 22, 23, 24, 25] (by decide +kernel) (by decide +kernel)
set_option maxRecDepth 20000 in
theorem gX3_energyIn_X3_roomAt : GoodIn wsX3_energyIn (wsV RX3 79 RX3 yX3_roomAt wsX3_roomAt) := goodIn_app (goodIn_of _ (by decide +kernel)) ggX3_energyIn_X3_roomAt
theorem dX3_energyIn_0 : decode cX3_energyIn 0 = .ok (.aload_n 0, 1) := by decide +kernel
theorem dX3_energyIn_1 : decode cX3_energyIn 1 = .ok (.iload_n 1, 1) := by decide +kernel
theorem dX3_energyIn_2 : decode cX3_energyIn 2 = .ok (.invokevirtual 79, 3) := by decide +kernel
theorem dX3_energyIn_5 : decode cX3_energyIn 5 = .ok (.astore_n 2, 1) := by decide +kernel
theorem dX3_energyIn_6 : decode cX3_energyIn 6 = .ok (.aload_n 2, 1) := by decide +kernel
theorem dX3_energyIn_7 : decode cX3_energyIn 7 = .ok (.ifnonnull 7, 3) := by decide +kernel
theorem dX3_energyIn_10 : decode cX3_energyIn 10 = .ok (.iconst 0, 1) := by decide +kernel
theorem dX3_energyIn_11 : decode cX3_energyIn 11 = .ok (.goto 7, 3) := by decide +kernel
theorem dX3_energyIn_14 : decode cX3_energyIn 14 = .ok (.aload_n 2, 1) := by decide +kernel
theorem dX3_energyIn_15 : decode cX3_energyIn 15 = .ok (.getfield 123, 3) := by decide +kernel
theorem dX3_energyIn_18 : decode cX3_energyIn 18 = .ok (.ireturn, 1) := by decide +kernel
theorem dX3_energyInRooms_0 : decode cX3_energyInRooms 0 = .ok (.iconst 0, 1) := by decide +kernel
theorem dX3_energyInRooms_1 : decode cX3_energyInRooms 1 = .ok (.istore_n 1, 1) := by decide +kernel
theorem dX3_energyInRooms_2 : decode cX3_energyInRooms 2 = .ok (.aload_n 0, 1) := by decide +kernel
theorem dX3_energyInRooms_3 : decode cX3_energyInRooms 3 = .ok (.getfield 11, 3) := by decide +kernel
theorem dX3_energyInRooms_6 : decode cX3_energyInRooms 6 = .ok (.astore_n 2, 1) := by decide +kernel
theorem dX3_energyInRooms_7 : decode cX3_energyInRooms 7 = .ok (.aload_n 2, 1) := by decide +kernel
theorem dX3_energyInRooms_8 : decode cX3_energyInRooms 8 = .ok (.arraylength, 1) := by decide +kernel
theorem dX3_energyInRooms_9 : decode cX3_energyInRooms 9 = .ok (.istore_n 3, 1) := by decide +kernel
theorem dX3_energyInRooms_10 : decode cX3_energyInRooms 10 = .ok (.iconst 0, 1) := by decide +kernel
theorem dX3_energyInRooms_11 : decode cX3_energyInRooms 11 = .ok (.istore 4, 2) := by decide +kernel
theorem dX3_energyInRooms_13 : decode cX3_energyInRooms 13 = .ok (.iload 4, 2) := by decide +kernel
theorem dX3_energyInRooms_15 : decode cX3_energyInRooms 15 = .ok (.iload_n 3, 1) := by decide +kernel
theorem dX3_energyInRooms_16 : decode cX3_energyInRooms 16 = .ok (.if_icmp .ge 23, 3) := by decide +kernel
theorem dX3_energyInRooms_19 : decode cX3_energyInRooms 19 = .ok (.aload_n 2, 1) := by decide +kernel
theorem dX3_energyInRooms_20 : decode cX3_energyInRooms 20 = .ok (.iload 4, 2) := by decide +kernel
theorem dX3_energyInRooms_22 : decode cX3_energyInRooms 22 = .ok (.aaload, 1) := by decide +kernel
theorem dX3_energyInRooms_23 : decode cX3_energyInRooms 23 = .ok (.astore 5, 2) := by decide +kernel
theorem dX3_energyInRooms_25 : decode cX3_energyInRooms 25 = .ok (.iload_n 1, 1) := by decide +kernel
theorem dX3_energyInRooms_26 : decode cX3_energyInRooms 26 = .ok (.aload 5, 2) := by decide +kernel
theorem dX3_energyInRooms_28 : decode cX3_energyInRooms 28 = .ok (.getfield 123, 3) := by decide +kernel
theorem dX3_energyInRooms_31 : decode cX3_energyInRooms 31 = .ok (.iadd, 1) := by decide +kernel
theorem dX3_energyInRooms_32 : decode cX3_energyInRooms 32 = .ok (.istore_n 1, 1) := by decide +kernel
theorem dX3_energyInRooms_33 : decode cX3_energyInRooms 33 = .ok (.iinc 4 1, 3) := by decide +kernel
theorem dX3_energyInRooms_36 : decode cX3_energyInRooms 36 = .ok (.goto (-23), 3) := by decide +kernel
theorem dX3_energyInRooms_39 : decode cX3_energyInRooms 39 = .ok (.iload_n 1, 1) := by decide +kernel
theorem dX3_energyInRooms_40 : decode cX3_energyInRooms 40 = .ok (.ireturn, 1) := by decide +kernel
set_option maxRecDepth 20000 in
theorem ggX3_energyOnItsWay_X0_energyOnItsWay : GoodIn wsX3_energyOnItsWay wsX0_energyOnItsWay := goodIn_r _ [6, 7, 18, 19, 20, 21, 22, 23, 24, 25, 26, 27] (by decide +kernel) (by decide +kernel)
set_option maxRecDepth 20000 in
theorem gX3_energyOnItsWay_X0_energyOnItsWay : GoodIn wsX3_energyOnItsWay (wsV RX3 126 RX0 yX0_energyOnItsWay wsX0_energyOnItsWay) := goodIn_app (goodIn_of _ (by decide +kernel)) ggX3_energyOnItsWay_X0_energyOnItsWay
theorem dX3_energyOnItsWay_0 : decode cX3_energyOnItsWay 0 = .ok (.iconst 0, 1) := by decide +kernel
theorem dX3_energyOnItsWay_1 : decode cX3_energyOnItsWay 1 = .ok (.istore_n 1, 1) := by decide +kernel
theorem dX3_energyOnItsWay_2 : decode cX3_energyOnItsWay 2 = .ok (.aload_n 0, 1) := by decide +kernel
theorem dX3_energyOnItsWay_3 : decode cX3_energyOnItsWay 3 = .ok (.getfield 19, 3) := by decide +kernel
theorem dX3_energyOnItsWay_6 : decode cX3_energyOnItsWay 6 = .ok (.astore_n 2, 1) := by decide +kernel
theorem dX3_energyOnItsWay_7 : decode cX3_energyOnItsWay 7 = .ok (.aload_n 2, 1) := by decide +kernel
theorem dX3_energyOnItsWay_8 : decode cX3_energyOnItsWay 8 = .ok (.arraylength, 1) := by decide +kernel
theorem dX3_energyOnItsWay_9 : decode cX3_energyOnItsWay 9 = .ok (.istore_n 3, 1) := by decide +kernel
theorem dX3_energyOnItsWay_10 : decode cX3_energyOnItsWay 10 = .ok (.iconst 0, 1) := by decide +kernel
theorem dX3_energyOnItsWay_11 : decode cX3_energyOnItsWay 11 = .ok (.istore 4, 2) := by decide +kernel
theorem dX3_energyOnItsWay_13 : decode cX3_energyOnItsWay 13 = .ok (.iload 4, 2) := by decide +kernel
theorem dX3_energyOnItsWay_15 : decode cX3_energyOnItsWay 15 = .ok (.iload_n 3, 1) := by decide +kernel
theorem dX3_energyOnItsWay_16 : decode cX3_energyOnItsWay 16 = .ok (.if_icmp .ge 23, 3) := by decide +kernel
theorem dX3_energyOnItsWay_19 : decode cX3_energyOnItsWay 19 = .ok (.aload_n 2, 1) := by decide +kernel
theorem dX3_energyOnItsWay_20 : decode cX3_energyOnItsWay 20 = .ok (.iload 4, 2) := by decide +kernel
theorem dX3_energyOnItsWay_22 : decode cX3_energyOnItsWay 22 = .ok (.aaload, 1) := by decide +kernel
theorem dX3_energyOnItsWay_23 : decode cX3_energyOnItsWay 23 = .ok (.astore 5, 2) := by decide +kernel
theorem dX3_energyOnItsWay_25 : decode cX3_energyOnItsWay 25 = .ok (.iload_n 1, 1) := by decide +kernel
theorem dX3_energyOnItsWay_26 : decode cX3_energyOnItsWay 26 = .ok (.aload 5, 2) := by decide +kernel
theorem dX3_energyOnItsWay_28 : decode cX3_energyOnItsWay 28 = .ok (.invokevirtual 126, 3) := by decide +kernel
theorem dX3_energyOnItsWay_31 : decode cX3_energyOnItsWay 31 = .ok (.iadd, 1) := by decide +kernel
theorem dX3_energyOnItsWay_32 : decode cX3_energyOnItsWay 32 = .ok (.istore_n 1, 1) := by decide +kernel
theorem dX3_energyOnItsWay_33 : decode cX3_energyOnItsWay 33 = .ok (.iinc 4 1, 3) := by decide +kernel
theorem dX3_energyOnItsWay_36 : decode cX3_energyOnItsWay 36 = .ok (.goto (-23), 3) := by decide +kernel
theorem dX3_energyOnItsWay_39 : decode cX3_energyOnItsWay 39 = .ok (.iload_n 1, 1) := by decide +kernel
theorem dX3_energyOnItsWay_40 : decode cX3_energyOnItsWay 40 = .ok (.ireturn, 1) := by decide +kernel
theorem dX3_energyAbsorbed_0 : decode cX3_energyAbsorbed 0 = .ok (.iconst 0, 1) := by decide +kernel
theorem dX3_energyAbsorbed_1 : decode cX3_energyAbsorbed 1 = .ok (.istore_n 1, 1) := by decide +kernel
theorem dX3_energyAbsorbed_2 : decode cX3_energyAbsorbed 2 = .ok (.aload_n 0, 1) := by decide +kernel
theorem dX3_energyAbsorbed_3 : decode cX3_energyAbsorbed 3 = .ok (.getfield 11, 3) := by decide +kernel
theorem dX3_energyAbsorbed_6 : decode cX3_energyAbsorbed 6 = .ok (.astore_n 2, 1) := by decide +kernel
theorem dX3_energyAbsorbed_7 : decode cX3_energyAbsorbed 7 = .ok (.aload_n 2, 1) := by decide +kernel
theorem dX3_energyAbsorbed_8 : decode cX3_energyAbsorbed 8 = .ok (.arraylength, 1) := by decide +kernel
theorem dX3_energyAbsorbed_9 : decode cX3_energyAbsorbed 9 = .ok (.istore_n 3, 1) := by decide +kernel
theorem dX3_energyAbsorbed_10 : decode cX3_energyAbsorbed 10 = .ok (.iconst 0, 1) := by decide +kernel
theorem dX3_energyAbsorbed_11 : decode cX3_energyAbsorbed 11 = .ok (.istore 4, 2) := by decide +kernel
theorem dX3_energyAbsorbed_13 : decode cX3_energyAbsorbed 13 = .ok (.iload 4, 2) := by decide +kernel
theorem dX3_energyAbsorbed_15 : decode cX3_energyAbsorbed 15 = .ok (.iload_n 3, 1) := by decide +kernel
theorem dX3_energyAbsorbed_16 : decode cX3_energyAbsorbed 16 = .ok (.if_icmp .ge 23, 3) := by decide +kernel
theorem dX3_energyAbsorbed_19 : decode cX3_energyAbsorbed 19 = .ok (.aload_n 2, 1) := by decide +kernel
theorem dX3_energyAbsorbed_20 : decode cX3_energyAbsorbed 20 = .ok (.iload 4, 2) := by decide +kernel
theorem dX3_energyAbsorbed_22 : decode cX3_energyAbsorbed 22 = .ok (.aaload, 1) := by decide +kernel
theorem dX3_energyAbsorbed_23 : decode cX3_energyAbsorbed 23 = .ok (.astore 5, 2) := by decide +kernel
theorem dX3_energyAbsorbed_25 : decode cX3_energyAbsorbed 25 = .ok (.iload_n 1, 1) := by decide +kernel
theorem dX3_energyAbsorbed_26 : decode cX3_energyAbsorbed 26 = .ok (.aload 5, 2) := by decide +kernel
theorem dX3_energyAbsorbed_28 : decode cX3_energyAbsorbed 28 = .ok (.getfield 129, 3) := by decide +kernel
theorem dX3_energyAbsorbed_31 : decode cX3_energyAbsorbed 31 = .ok (.iadd, 1) := by decide +kernel
theorem dX3_energyAbsorbed_32 : decode cX3_energyAbsorbed 32 = .ok (.istore_n 1, 1) := by decide +kernel
theorem dX3_energyAbsorbed_33 : decode cX3_energyAbsorbed 33 = .ok (.iinc 4 1, 3) := by decide +kernel
theorem dX3_energyAbsorbed_36 : decode cX3_energyAbsorbed 36 = .ok (.goto (-23), 3) := by decide +kernel
theorem dX3_energyAbsorbed_39 : decode cX3_energyAbsorbed 39 = .ok (.iload_n 1, 1) := by decide +kernel
theorem dX3_energyAbsorbed_40 : decode cX3_energyAbsorbed 40 = .ok (.ireturn, 1) := by decide +kernel
theorem dX3_energyGiven_0 : decode cX3_energyGiven 0 = .ok (.iconst 0, 1) := by decide +kernel
theorem dX3_energyGiven_1 : decode cX3_energyGiven 1 = .ok (.istore_n 1, 1) := by decide +kernel
theorem dX3_energyGiven_2 : decode cX3_energyGiven 2 = .ok (.aload_n 0, 1) := by decide +kernel
theorem dX3_energyGiven_3 : decode cX3_energyGiven 3 = .ok (.getfield 11, 3) := by decide +kernel
theorem dX3_energyGiven_6 : decode cX3_energyGiven 6 = .ok (.astore_n 2, 1) := by decide +kernel
