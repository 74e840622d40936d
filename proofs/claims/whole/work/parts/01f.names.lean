theorem dX8_changes_78 : decode cX8_changes 78 = .ok (.iastore, 1) := by decide +kernel
theorem dX8_changes_79 : decode cX8_changes 79 = .ok (.iinc 1 1, 3) := by decide +kernel
theorem dX8_changes_82 : decode cX8_changes 82 = .ok (.goto (-31), 3) := by decide +kernel
theorem dX8_changes_85 : decode cX8_changes 85 = .ok (.aload_n 0, 1) := by decide +kernel
theorem dX8_changes_86 : decode cX8_changes 86 = .ok (.dup, 1) := by decide +kernel
theorem dX8_changes_87 : decode cX8_changes 87 = .ok (.getfield 32, 3) := by decide +kernel
theorem dX8_changes_90 : decode cX8_changes 90 = .ok (.iconst 1, 1) := by decide +kernel
theorem dX8_changes_91 : decode cX8_changes 91 = .ok (.iadd, 1) := by decide +kernel
theorem dX8_changes_92 : decode cX8_changes 92 = .ok (.putfield 32, 3) := by decide +kernel
theorem dX8_changes_95 : decode cX8_changes 95 = .ok (.return_, 1) := by decide +kernel
theorem dX8_isRoom_0 : decode cX8_isRoom 0 = .ok (.iload_n 1, 1) := by decide +kernel
theorem dX8_isRoom_1 : decode cX8_isRoom 1 = .ok (.ifCond .lt 17, 3) := by decide +kernel
theorem dX8_isRoom_4 : decode cX8_isRoom 4 = .ok (.iload_n 1, 1) := by decide +kernel
theorem dX8_isRoom_5 : decode cX8_isRoom 5 = .ok (.aload_n 0, 1) := by decide +kernel
theorem dX8_isRoom_6 : decode cX8_isRoom 6 = .ok (.getfield 7, 3) := by decide +kernel
theorem dX8_isRoom_9 : decode cX8_isRoom 9 = .ok (.iconst 0, 1) := by decide +kernel
theorem dX8_isRoom_10 : decode cX8_isRoom 10 = .ok (.iaload, 1) := by decide +kernel
theorem dX8_isRoom_11 : decode cX8_isRoom 11 = .ok (.if_icmp .ge 7, 3) := by decide +kernel
theorem dX8_isRoom_14 : decode cX8_isRoom 14 = .ok (.iconst 1, 1) := by decide +kernel
theorem dX8_isRoom_15 : decode cX8_isRoom 15 = .ok (.goto 4, 3) := by decide +kernel
theorem dX8_isRoom_18 : decode cX8_isRoom 18 = .ok (.iconst 0, 1) := by decide +kernel
theorem dX8_isRoom_19 : decode cX8_isRoom 19 = .ok (.ireturn, 1) := by decide +kernel
theorem dX8_isDoor_0 : decode cX8_isDoor 0 = .ok (.iload_n 1, 1) := by decide +kernel
theorem dX8_isDoor_1 : decode cX8_isDoor 1 = .ok (.ifCond .lt 17, 3) := by decide +kernel
theorem dX8_isDoor_4 : decode cX8_isDoor 4 = .ok (.iload_n 1, 1) := by decide +kernel
theorem dX8_isDoor_5 : decode cX8_isDoor 5 = .ok (.aload_n 0, 1) := by decide +kernel
theorem dX8_isDoor_6 : decode cX8_isDoor 6 = .ok (.getfield 7, 3) := by decide +kernel
theorem dX8_isDoor_9 : decode cX8_isDoor 9 = .ok (.iconst 1, 1) := by decide +kernel
theorem dX8_isDoor_10 : decode cX8_isDoor 10 = .ok (.iaload, 1) := by decide +kernel
theorem dX8_isDoor_11 : decode cX8_isDoor 11 = .ok (.if_icmp .ge 7, 3) := by decide +kernel
theorem dX8_isDoor_14 : decode cX8_isDoor 14 = .ok (.iconst 1, 1) := by decide +kernel
theorem dX8_isDoor_15 : decode cX8_isDoor 15 = .ok (.goto 4, 3) := by decide +kernel
theorem dX8_isDoor_18 : decode cX8_isDoor 18 = .ok (.iconst 0, 1) := by decide +kernel
theorem dX8_isDoor_19 : decode cX8_isDoor 19 = .ok (.ireturn, 1) := by decide +kernel
theorem dX8_inRoom_0 : decode cX8_inRoom 0 = .ok (.aload_n 0, 1) := by decide +kernel
theorem dX8_inRoom_1 : decode cX8_inRoom 1 = .ok (.bipush 9, 2) := by decide +kernel
theorem dX8_inRoom_3 : decode cX8_inRoom 3 = .ok (.bipush 6, 2) := by decide +kernel
theorem dX8_inRoom_5 : decode cX8_inRoom 5 = .ok (.iload_n 1, 1) := by decide +kernel
theorem dX8_inRoom_6 : decode cX8_inRoom 6 = .ok (.imul, 1) := by decide +kernel
theorem dX8_inRoom_7 : decode cX8_inRoom 7 = .ok (.iadd, 1) := by decide +kernel
theorem dX8_inRoom_8 : decode cX8_inRoom 8 = .ok (.iload_n 2, 1) := by decide +kernel
theorem dX8_inRoom_9 : decode cX8_inRoom 9 = .ok (.iadd, 1) := by decide +kernel
theorem dX8_inRoom_10 : decode cX8_inRoom 10 = .ok (.iaload, 1) := by decide +kernel
theorem dX8_inRoom_11 : decode cX8_inRoom 11 = .ok (.ireturn, 1) := by decide +kernel
theorem dX8_ofDoor_0 : decode cX8_ofDoor 0 = .ok (.aload_n 0, 1) := by decide +kernel
theorem dX8_ofDoor_1 : decode cX8_ofDoor 1 = .ok (.bipush 57, 2) := by decide +kernel
theorem dX8_ofDoor_3 : decode cX8_ofDoor 3 = .ok (.bipush 10, 2) := by decide +kernel
theorem dX8_ofDoor_5 : decode cX8_ofDoor 5 = .ok (.iload_n 1, 1) := by decide +kernel
theorem dX8_ofDoor_6 : decode cX8_ofDoor 6 = .ok (.imul, 1) := by decide +kernel
theorem dX8_ofDoor_7 : decode cX8_ofDoor 7 = .ok (.iadd, 1) := by decide +kernel
theorem dX8_ofDoor_8 : decode cX8_ofDoor 8 = .ok (.iload_n 2, 1) := by decide +kernel
theorem dX8_ofDoor_9 : decode cX8_ofDoor 9 = .ok (.iadd, 1) := by decide +kernel
theorem dX8_ofDoor_10 : decode cX8_ofDoor 10 = .ok (.iaload, 1) := by decide +kernel
theorem dX8_ofDoor_11 : decode cX8_ofDoor 11 = .ok (.ireturn, 1) := by decide +kernel
theorem dX8_entry_0 : decode cX8_entry 0 = .ok (.aload_n 0, 1) := by decide +kernel
theorem dX8_entry_1 : decode cX8_entry 1 = .ok (.sipush 321, 3) := by decide +kernel
theorem dX8_entry_4 : decode cX8_entry 4 = .ok (.iconst 5, 1) := by decide +kernel
theorem dX8_entry_5 : decode cX8_entry 5 = .ok (.iload_n 1, 1) := by decide +kernel
theorem dX8_entry_6 : decode cX8_entry 6 = .ok (.imul, 1) := by decide +kernel
theorem dX8_entry_7 : decode cX8_entry 7 = .ok (.iadd, 1) := by decide +kernel
theorem dX8_entry_8 : decode cX8_entry 8 = .ok (.iload_n 2, 1) := by decide +kernel
theorem dX8_entry_9 : decode cX8_entry 9 = .ok (.iadd, 1) := by decide +kernel
theorem dX8_entry_10 : decode cX8_entry 10 = .ok (.iaload, 1) := by decide +kernel
theorem dX8_entry_11 : decode cX8_entry 11 = .ok (.ireturn, 1) := by decide +kernel
set_option maxRecDepth 20000 in
theorem ggX8_room_X8_in : GoodIn wsX8_room wsX8_in := goodIn_r _ [5] (by decide +kernel) (by decide +kernel)
set_option maxRecDepth 20000 in
theorem gX8_room_X8_in : GoodIn wsX8_room (va_wsS RX8 36 yX8_in wsX8_in) := goodIn_app (goodIn_of _ (by decide +kernel)) ggX8_room_X8_in
set_option maxRecDepth 20000 in
theorem ggX8_room_X8_changes : GoodIn wsX8_room wsX8_changes := goodIn_r _ [9, 10, 11, 1, 12, 13, 14, 15, 16, 17, 18, 19, 20, 21, 22, 23, 24] (by decide +kernel) (by decide +kernel)
set_option maxRecDepth 20000 in
theorem gX8_room_X8_changes : GoodIn wsX8_room (wsV RX8 40 RX8 yX8_changes wsX8_changes) := goodIn_app (goodIn_of _ (by decide +kernel)) ggX8_room_X8_changes
theorem dX8_room_0 : decode cX8_room 0 = .ok (.iload_n 1, 1) := by decide +kernel
theorem dX8_room_1 : decode cX8_room 1 = .ok (.bipush 10, 2) := by decide +kernel
theorem dX8_room_3 : decode cX8_room 3 = .ok (.sipush 10000, 3) := by decide +kernel
theorem dX8_room_6 : decode cX8_room 6 = .ok (.invokestatic 36, 3) := by decide +kernel
theorem dX8_room_9 : decode cX8_room 9 = .ok (.ifCond .eq 14, 3) := by decide +kernel
theorem dX8_room_12 : decode cX8_room 12 = .ok (.iload_n 2, 1) := by decide +kernel
theorem dX8_room_13 : decode cX8_room 13 = .ok (.iconst 0, 1) := by decide +kernel
theorem dX8_room_14 : decode cX8_room 14 = .ok (.sipush 1000, 3) := by decide +kernel
theorem dX8_room_17 : decode cX8_room 17 = .ok (.invokestatic 36, 3) := by decide +kernel
theorem dX8_room_20 : decode cX8_room 20 = .ok (.ifCond .ne 5, 3) := by decide +kernel
theorem dX8_room_23 : decode cX8_room 23 = .ok (.iconst (-1), 1) := by decide +kernel
theorem dX8_room_24 : decode cX8_room 24 = .ok (.ireturn, 1) := by decide +kernel
theorem dX8_room_25 : decode cX8_room 25 = .ok (.aload_n 0, 1) := by decide +kernel
theorem dX8_room_26 : decode cX8_room 26 = .ok (.getfield 7, 3) := by decide +kernel
theorem dX8_room_29 : decode cX8_room 29 = .ok (.iconst 0, 1) := by decide +kernel
theorem dX8_room_30 : decode cX8_room 30 = .ok (.iaload, 1) := by decide +kernel
theorem dX8_room_31 : decode cX8_room 31 = .ok (.bipush 8, 2) := by decide +kernel
theorem dX8_room_33 : decode cX8_room 33 = .ok (.if_icmp .ne 6, 3) := by decide +kernel
theorem dX8_room_36 : decode cX8_room 36 = .ok (.bipush (-3), 2) := by decide +kernel
theorem dX8_room_38 : decode cX8_room 38 = .ok (.ireturn, 1) := by decide +kernel
theorem dX8_room_39 : decode cX8_room 39 = .ok (.aload_n 0, 1) := by decide +kernel
theorem dX8_room_40 : decode cX8_room 40 = .ok (.invokevirtual 40, 3) := by decide +kernel
theorem dX8_room_43 : decode cX8_room 43 = .ok (.aload_n 0, 1) := by decide +kernel
theorem dX8_room_44 : decode cX8_room 44 = .ok (.getfield 7, 3) := by decide +kernel
theorem dX8_room_47 : decode cX8_room 47 = .ok (.iconst 0, 1) := by decide +kernel
theorem dX8_room_48 : decode cX8_room 48 = .ok (.iaload, 1) := by decide +kernel
theorem dX8_room_49 : decode cX8_room 49 = .ok (.istore_n 3, 1) := by decide +kernel
theorem dX8_room_50 : decode cX8_room 50 = .ok (.bipush 9, 2) := by decide +kernel
theorem dX8_room_52 : decode cX8_room 52 = .ok (.bipush 6, 2) := by decide +kernel
theorem dX8_room_54 : decode cX8_room 54 = .ok (.iload_n 3, 1) := by decide +kernel
theorem dX8_room_55 : decode cX8_room 55 = .ok (.imul, 1) := by decide +kernel
theorem dX8_room_56 : decode cX8_room 56 = .ok (.iadd, 1) := by decide +kernel
theorem dX8_room_57 : decode cX8_room 57 = .ok (.istore 4, 2) := by decide +kernel
theorem dX8_room_59 : decode cX8_room 59 = .ok (.aload_n 0, 1) := by decide +kernel
theorem dX8_room_60 : decode cX8_room 60 = .ok (.getfield 7, 3) := by decide +kernel
theorem dX8_room_63 : decode cX8_room 63 = .ok (.iload 4, 2) := by decide +kernel
theorem dX8_room_65 : decode cX8_room 65 = .ok (.iconst 0, 1) := by decide +kernel
theorem dX8_room_66 : decode cX8_room 66 = .ok (.iadd, 1) := by decide +kernel
theorem dX8_room_67 : decode cX8_room 67 = .ok (.iload_n 1, 1) := by decide +kernel
theorem dX8_room_68 : decode cX8_room 68 = .ok (.iastore, 1) := by decide +kernel
theorem dX8_room_69 : decode cX8_room 69 = .ok (.aload_n 0, 1) := by decide +kernel
theorem dX8_room_70 : decode cX8_room 70 = .ok (.getfield 7, 3) := by decide +kernel
theorem dX8_room_73 : decode cX8_room 73 = .ok (.iload 4, 2) := by decide +kernel
theorem dX8_room_75 : decode cX8_room 75 = .ok (.iconst 1, 1) := by decide +kernel
theorem dX8_room_76 : decode cX8_room 76 = .ok (.iadd, 1) := by decide +kernel
theorem dX8_room_77 : decode cX8_room 77 = .ok (.iload_n 2, 1) := by decide +kernel
theorem dX8_room_78 : decode cX8_room 78 = .ok (.iastore, 1) := by decide +kernel
theorem dX8_room_79 : decode cX8_room 79 = .ok (.aload_n 0, 1) := by decide +kernel
theorem dX8_room_80 : decode cX8_room 80 = .ok (.getfield 7, 3) := by decide +kernel
theorem dX8_room_83 : decode cX8_room 83 = .ok (.iload 4, 2) := by decide +kernel
theorem dX8_room_85 : decode cX8_room 85 = .ok (.iconst 2, 1) := by decide +kernel
theorem dX8_room_86 : decode cX8_room 86 = .ok (.iadd, 1) := by decide +kernel
theorem dX8_room_87 : decode cX8_room 87 = .ok (.iconst 0, 1) := by decide +kernel
theorem dX8_room_88 : decode cX8_room 88 = .ok (.iastore, 1) := by decide +kernel
theorem dX8_room_89 : decode cX8_room 89 = .ok (.aload_n 0, 1) := by decide +kernel
theorem dX8_room_90 : decode cX8_room 90 = .ok (.getfield 7, 3) := by decide +kernel
theorem dX8_room_93 : decode cX8_room 93 = .ok (.iload 4, 2) := by decide +kernel
theorem dX8_room_95 : decode cX8_room 95 = .ok (.iconst 3, 1) := by decide +kernel
theorem dX8_room_96 : decode cX8_room 96 = .ok (.iadd, 1) := by decide +kernel
theorem dX8_room_97 : decode cX8_room 97 = .ok (.iconst 0, 1) := by decide +kernel
theorem dX8_room_98 : decode cX8_room 98 = .ok (.iastore, 1) := by decide +kernel
theorem dX8_room_99 : decode cX8_room 99 = .ok (.aload_n 0, 1) := by decide +kernel
theorem dX8_room_100 : decode cX8_room 100 = .ok (.getfield 7, 3) := by decide +kernel
theorem dX8_room_103 : decode cX8_room 103 = .ok (.iload 4, 2) := by decide +kernel
theorem dX8_room_105 : decode cX8_room 105 = .ok (.iconst 4, 1) := by decide +kernel
theorem dX8_room_106 : decode cX8_room 106 = .ok (.iadd, 1) := by decide +kernel
theorem dX8_room_107 : decode cX8_room 107 = .ok (.iconst 0, 1) := by decide +kernel
theorem dX8_room_108 : decode cX8_room 108 = .ok (.iastore, 1) := by decide +kernel
theorem dX8_room_109 : decode cX8_room 109 = .ok (.aload_n 0, 1) := by decide +kernel
theorem dX8_room_110 : decode cX8_room 110 = .ok (.getfield 7, 3) := by decide +kernel
theorem dX8_room_113 : decode cX8_room 113 = .ok (.iload 4, 2) := by decide +kernel
theorem dX8_room_115 : decode cX8_room 115 = .ok (.iconst 5, 1) := by decide +kernel
theorem dX8_room_116 : decode cX8_room 116 = .ok (.iadd, 1) := by decide +kernel
theorem dX8_room_117 : decode cX8_room 117 = .ok (.aload_n 0, 1) := by decide +kernel
theorem dX8_room_118 : decode cX8_room 118 = .ok (.getfield 7, 3) := by decide +kernel
theorem dX8_room_121 : decode cX8_room 121 = .ok (.iconst 3, 1) := by decide +kernel
theorem dX8_room_122 : decode cX8_room 122 = .ok (.iaload, 1) := by decide +kernel
theorem dX8_room_123 : decode cX8_room 123 = .ok (.iastore, 1) := by decide +kernel
theorem dX8_room_124 : decode cX8_room 124 = .ok (.iconst 0, 1) := by decide +kernel
theorem dX8_room_125 : decode cX8_room 125 = .ok (.istore 5, 2) := by decide +kernel
theorem dX8_room_127 : decode cX8_room 127 = .ok (.iload 5, 2) := by decide +kernel
theorem dX8_room_129 : decode cX8_room 129 = .ok (.bipush 32, 2) := by decide +kernel
theorem dX8_room_131 : decode cX8_room 131 = .ok (.if_icmp .ge 26, 3) := by decide +kernel
theorem dX8_room_134 : decode cX8_room 134 = .ok (.aload_n 0, 1) := by decide +kernel
theorem dX8_room_135 : decode cX8_room 135 = .ok (.getfield 7, 3) := by decide +kernel
theorem dX8_room_138 : decode cX8_room 138 = .ok (.sipush 401, 3) := by decide +kernel
theorem dX8_room_141 : decode cX8_room 141 = .ok (.bipush 32, 2) := by decide +kernel
theorem dX8_room_143 : decode cX8_room 143 = .ok (.iload_n 3, 1) := by decide +kernel
theorem dX8_room_144 : decode cX8_room 144 = .ok (.imul, 1) := by decide +kernel
theorem dX8_room_145 : decode cX8_room 145 = .ok (.iadd, 1) := by decide +kernel
theorem dX8_room_146 : decode cX8_room 146 = .ok (.iload 5, 2) := by decide +kernel
theorem dX8_room_148 : decode cX8_room 148 = .ok (.iadd, 1) := by decide +kernel
theorem dX8_room_149 : decode cX8_room 149 = .ok (.iconst 0, 1) := by decide +kernel
theorem dX8_room_150 : decode cX8_room 150 = .ok (.iastore, 1) := by decide +kernel
theorem dX8_room_151 : decode cX8_room 151 = .ok (.iinc 5 1, 3) := by decide +kernel
theorem dX8_room_154 : decode cX8_room 154 = .ok (.goto (-27), 3) := by decide +kernel
theorem dX8_room_157 : decode cX8_room 157 = .ok (.aload_n 0, 1) := by decide +kernel
theorem dX8_room_158 : decode cX8_room 158 = .ok (.getfield 7, 3) := by decide +kernel
theorem dX8_room_161 : decode cX8_room 161 = .ok (.iconst 0, 1) := by decide +kernel
theorem dX8_room_162 : decode cX8_room 162 = .ok (.dup2, 1) := by decide +kernel
theorem dX8_room_163 : decode cX8_room 163 = .ok (.iaload, 1) := by decide +kernel
theorem dX8_room_164 : decode cX8_room 164 = .ok (.iconst 1, 1) := by decide +kernel
theorem dX8_room_165 : decode cX8_room 165 = .ok (.iadd, 1) := by decide +kernel
theorem dX8_room_166 : decode cX8_room 166 = .ok (.iastore, 1) := by decide +kernel
theorem dX8_room_167 : decode cX8_room 167 = .ok (.iload_n 3, 1) := by decide +kernel
theorem dX8_room_168 : decode cX8_room 168 = .ok (.ireturn, 1) := by decide +kernel
set_option maxRecDepth 20000 in
theorem ggX8_areasOf_X8_ofDoor : GoodIn wsX8_areasOf wsX8_ofDoor := goodIn_r _ [5] (by decide +kernel) (by decide +kernel)
set_option maxRecDepth 20000 in
theorem gX8_areasOf_X8_ofDoor : GoodIn wsX8_areasOf (va_wsS RX8 43 yX8_ofDoor wsX8_ofDoor) := goodIn_app (goodIn_of _ (by decide +kernel)) ggX8_areasOf_X8_ofDoor
theorem dX8_areasOf_0 : decode cX8_areasOf 0 = .ok (.iconst 0, 1) := by decide +kernel
theorem dX8_areasOf_1 : decode cX8_areasOf 1 = .ok (.istore_n 2, 1) := by decide +kernel
theorem dX8_areasOf_2 : decode cX8_areasOf 2 = .ok (.iconst 0, 1) := by decide +kernel
theorem dX8_areasOf_3 : decode cX8_areasOf 3 = .ok (.istore_n 3, 1) := by decide +kernel
theorem dX8_areasOf_4 : decode cX8_areasOf 4 = .ok (.iload_n 3, 1) := by decide +kernel
theorem dX8_areasOf_5 : decode cX8_areasOf 5 = .ok (.aload_n 0, 1) := by decide +kernel
theorem dX8_areasOf_6 : decode cX8_areasOf 6 = .ok (.getfield 7, 3) := by decide +kernel
theorem dX8_areasOf_9 : decode cX8_areasOf 9 = .ok (.iconst 1, 1) := by decide +kernel
theorem dX8_areasOf_10 : decode cX8_areasOf 10 = .ok (.iaload, 1) := by decide +kernel
theorem dX8_areasOf_11 : decode cX8_areasOf 11 = .ok (.if_icmp .ge 51, 3) := by decide +kernel
theorem dX8_areasOf_14 : decode cX8_areasOf 14 = .ok (.iload_n 2, 1) := by decide +kernel
theorem dX8_areasOf_15 : decode cX8_areasOf 15 = .ok (.aload_n 0, 1) := by decide +kernel
theorem dX8_areasOf_16 : decode cX8_areasOf 16 = .ok (.getfield 7, 3) := by decide +kernel
theorem dX8_areasOf_19 : decode cX8_areasOf 19 = .ok (.iload_n 3, 1) := by decide +kernel
theorem dX8_areasOf_20 : decode cX8_areasOf 20 = .ok (.iconst 0, 1) := by decide +kernel
theorem dX8_areasOf_21 : decode cX8_areasOf 21 = .ok (.invokestatic 43, 3) := by decide +kernel
theorem dX8_areasOf_24 : decode cX8_areasOf 24 = .ok (.iload_n 1, 1) := by decide +kernel
theorem dX8_areasOf_25 : decode cX8_areasOf 25 = .ok (.if_icmp .eq 16, 3) := by decide +kernel
theorem dX8_areasOf_28 : decode cX8_areasOf 28 = .ok (.aload_n 0, 1) := by decide +kernel
theorem dX8_areasOf_29 : decode cX8_areasOf 29 = .ok (.getfield 7, 3) := by decide +kernel
theorem dX8_areasOf_32 : decode cX8_areasOf 32 = .ok (.iload_n 3, 1) := by decide +kernel
theorem dX8_areasOf_33 : decode cX8_areasOf 33 = .ok (.iconst 1, 1) := by decide +kernel
theorem dX8_areasOf_34 : decode cX8_areasOf 34 = .ok (.invokestatic 43, 3) := by decide +kernel
theorem dX8_areasOf_37 : decode cX8_areasOf 37 = .ok (.iload_n 1, 1) := by decide +kernel
theorem dX8_areasOf_38 : decode cX8_areasOf 38 = .ok (.if_icmp .ne 15, 3) := by decide +kernel
theorem dX8_areasOf_41 : decode cX8_areasOf 41 = .ok (.aload_n 0, 1) := by decide +kernel
theorem dX8_areasOf_42 : decode cX8_areasOf 42 = .ok (.getfield 7, 3) := by decide +kernel
theorem dX8_areasOf_45 : decode cX8_areasOf 45 = .ok (.iload_n 3, 1) := by decide +kernel
theorem dX8_areasOf_46 : decode cX8_areasOf 46 = .ok (.iconst 2, 1) := by decide +kernel
theorem dX8_areasOf_47 : decode cX8_areasOf 47 = .ok (.invokestatic 43, 3) := by decide +kernel
theorem dX8_areasOf_50 : decode cX8_areasOf 50 = .ok (.goto 4, 3) := by decide +kernel
theorem dX8_areasOf_53 : decode cX8_areasOf 53 = .ok (.iconst 0, 1) := by decide +kernel
theorem dX8_areasOf_54 : decode cX8_areasOf 54 = .ok (.iadd, 1) := by decide +kernel
theorem dX8_areasOf_55 : decode cX8_areasOf 55 = .ok (.istore_n 2, 1) := by decide +kernel
theorem dX8_areasOf_56 : decode cX8_areasOf 56 = .ok (.iinc 3 1, 3) := by decide +kernel
theorem dX8_areasOf_59 : decode cX8_areasOf 59 = .ok (.goto (-55), 3) := by decide +kernel
theorem dX8_areasOf_62 : decode cX8_areasOf 62 = .ok (.iload_n 2, 1) := by decide +kernel
theorem dX8_areasOf_63 : decode cX8_areasOf 63 = .ok (.ireturn, 1) := by decide +kernel
set_option maxRecDepth 20000 in
theorem ggX8_hasSpace_X8_areasOf : GoodIn wsX8_hasSpace wsX8_areasOf := goodIn_r _ [6, 1, 7, 8, 5, 9, 13, 14, 15, 16, 17, 18, 19, 20, 21, 22, 23, 24, 25] (by decide +kernel) (by decide +kernel)
set_option maxRecDepth 20000 in
theorem gX8_hasSpace_X8_areasOf : GoodIn wsX8_hasSpace (wsV RX8 47 RX8 yX8_areasOf wsX8_areasOf) := goodIn_app (goodIn_of _ (by decide +kernel)) ggX8_hasSpace_X8_areasOf
set_option maxRecDepth 20000 in
theorem ggX8_hasSpace_X8_inRoom : GoodIn wsX8_hasSpace wsX8_inRoom := goodIn_r _ [12] (by decide +kernel) (by decide +kernel)
set_option maxRecDepth 20000 in
theorem gX8_hasSpace_X8_inRoom : GoodIn wsX8_hasSpace (va_wsS RX8 51 yX8_inRoom wsX8_inRoom) := goodIn_app (goodIn_of _ (by decide +kernel)) ggX8_hasSpace_X8_inRoom
theorem dX8_hasSpace_0 : decode cX8_hasSpace 0 = .ok (.iload_n 1, 1) := by decide +kernel
theorem dX8_hasSpace_1 : decode cX8_hasSpace 1 = .ok (.bipush 8, 2) := by decide +kernel
theorem dX8_hasSpace_3 : decode cX8_hasSpace 3 = .ok (.if_icmp .eq 22, 3) := by decide +kernel
theorem dX8_hasSpace_6 : decode cX8_hasSpace 6 = .ok (.aload_n 0, 1) := by decide +kernel
theorem dX8_hasSpace_7 : decode cX8_hasSpace 7 = .ok (.iload_n 1, 1) := by decide +kernel
theorem dX8_hasSpace_8 : decode cX8_hasSpace 8 = .ok (.invokevirtual 47, 3) := by decide +kernel
theorem dX8_hasSpace_11 : decode cX8_hasSpace 11 = .ok (.iload_n 2, 1) := by decide +kernel
theorem dX8_hasSpace_12 : decode cX8_hasSpace 12 = .ok (.iadd, 1) := by decide +kernel
theorem dX8_hasSpace_13 : decode cX8_hasSpace 13 = .ok (.aload_n 0, 1) := by decide +kernel
theorem dX8_hasSpace_14 : decode cX8_hasSpace 14 = .ok (.getfield 7, 3) := by decide +kernel
theorem dX8_hasSpace_17 : decode cX8_hasSpace 17 = .ok (.iload_n 1, 1) := by decide +kernel
theorem dX8_hasSpace_18 : decode cX8_hasSpace 18 = .ok (.iconst 0, 1) := by decide +kernel
theorem dX8_hasSpace_19 : decode cX8_hasSpace 19 = .ok (.invokestatic 51, 3) := by decide +kernel
theorem dX8_hasSpace_22 : decode cX8_hasSpace 22 = .ok (.if_icmp .gt 7, 3) := by decide +kernel
theorem dX8_hasSpace_25 : decode cX8_hasSpace 25 = .ok (.iconst 1, 1) := by decide +kernel
theorem dX8_hasSpace_26 : decode cX8_hasSpace 26 = .ok (.goto 4, 3) := by decide +kernel
theorem dX8_hasSpace_29 : decode cX8_hasSpace 29 = .ok (.iconst 0, 1) := by decide +kernel
theorem dX8_hasSpace_30 : decode cX8_hasSpace 30 = .ok (.ireturn, 1) := by decide +kernel
set_option maxRecDepth 20000 in
theorem ggX8_door_X8_isRoom : GoodIn wsX8_door wsX8_isRoom := goodIn_r _ [6, 1, 30, 31, 32, 33, 34, 35, 36, 37, 38, 39, 40, 41, 42] (by decide +kernel) (by decide +kernel)
set_option maxRecDepth 20000 in
theorem gX8_door_X8_isRoom : GoodIn wsX8_door (wsV RX8 54 RX8 yX8_isRoom wsX8_isRoom) := goodIn_app (goodIn_of _ (by decide +kernel)) ggX8_door_X8_isRoom
set_option maxRecDepth 20000 in
theorem ggX8_door_X8_in : GoodIn wsX8_door wsX8_in := goodIn_r _ [9] (by decide +kernel) (by decide +kernel)
set_option maxRecDepth 20000 in
theorem gX8_door_X8_in : GoodIn wsX8_door (va_wsS RX8 36 yX8_in wsX8_in) := goodIn_app (goodIn_of _ (by decide +kernel)) ggX8_door_X8_in
set_option maxRecDepth 20000 in
theorem ggX8_door_X8_hasSpace : GoodIn wsX8_door wsX8_hasSpace := goodIn_r _ [13, 1, 14, 15, 16, 5, 17, 18, 19, 20, 21, 22, 23, 30, 31, 32, 33, 34, 35, 36, 37, 38, 39, 40, 41, 42] (by decide +kernel) (by decide +kernel)
set_option maxRecDepth 20000 in
theorem gX8_door_X8_hasSpace : GoodIn wsX8_door (wsV RX8 58 RX8 yX8_hasSpace wsX8_hasSpace) := goodIn_app (goodIn_of _ (by decide +kernel)) ggX8_door_X8_hasSpace
set_option maxRecDepth 20000 in
theorem ggX8_door_X8_changes : GoodIn wsX8_door wsX8_changes := goodIn_r _ [27, 28, 29, 1, 30, 31, 32, 33, 34, 35, 36, 37, 38, 39, 40, 41, 42] (by decide +kernel) (by decide +kernel)
set_option maxRecDepth 20000 in
theorem gX8_door_X8_changes : GoodIn wsX8_door (wsV RX8 40 RX8 yX8_changes wsX8_changes) := goodIn_app (goodIn_of _ (by decide +kernel)) ggX8_door_X8_changes
theorem dX8_door_0 : decode cX8_door 0 = .ok (.aload_n 0, 1) := by decide +kernel
theorem dX8_door_1 : decode cX8_door 1 = .ok (.iload_n 1, 1) := by decide +kernel
theorem dX8_door_2 : decode cX8_door 2 = .ok (.invokevirtual 54, 3) := by decide +kernel
theorem dX8_door_5 : decode cX8_door 5 = .ok (.ifCond .eq 54, 3) := by decide +kernel
theorem dX8_door_8 : decode cX8_door 8 = .ok (.aload_n 0, 1) := by decide +kernel
theorem dX8_door_9 : decode cX8_door 9 = .ok (.iload_n 2, 1) := by decide +kernel
theorem dX8_door_10 : decode cX8_door 10 = .ok (.invokevirtual 54, 3) := by decide +kernel
theorem dX8_door_13 : decode cX8_door 13 = .ok (.ifCond .ne 9, 3) := by decide +kernel
theorem dX8_door_16 : decode cX8_door 16 = .ok (.iload_n 2, 1) := by decide +kernel
theorem dX8_door_17 : decode cX8_door 17 = .ok (.bipush 8, 2) := by decide +kernel
theorem dX8_door_19 : decode cX8_door 19 = .ok (.if_icmp .ne 40, 3) := by decide +kernel
theorem dX8_door_22 : decode cX8_door 22 = .ok (.iload_n 1, 1) := by decide +kernel
theorem dX8_door_23 : decode cX8_door 23 = .ok (.iload_n 2, 1) := by decide +kernel
theorem dX8_door_24 : decode cX8_door 24 = .ok (.if_icmp .eq 35, 3) := by decide +kernel
theorem dX8_door_27 : decode cX8_door 27 = .ok (.iload_n 3, 1) := by decide +kernel
theorem dX8_door_28 : decode cX8_door 28 = .ok (.iconst 1, 1) := by decide +kernel
theorem dX8_door_29 : decode cX8_door 29 = .ok (.sipush 1000, 3) := by decide +kernel
theorem dX8_door_32 : decode cX8_door 32 = .ok (.invokestatic 36, 3) := by decide +kernel
theorem dX8_door_35 : decode cX8_door 35 = .ok (.ifCond .eq 24, 3) := by decide +kernel
theorem dX8_door_38 : decode cX8_door 38 = .ok (.iload 4, 2) := by decide +kernel
theorem dX8_door_40 : decode cX8_door 40 = .ok (.iconst 1, 1) := by decide +kernel
theorem dX8_door_41 : decode cX8_door 41 = .ok (.bipush 10, 2) := by decide +kernel
theorem dX8_door_43 : decode cX8_door 43 = .ok (.invokestatic 36, 3) := by decide +kernel
theorem dX8_door_46 : decode cX8_door 46 = .ok (.ifCond .eq 13, 3) := by decide +kernel
theorem dX8_door_49 : decode cX8_door 49 = .ok (.iload 5, 2) := by decide +kernel
theorem dX8_door_51 : decode cX8_door 51 = .ok (.iconst 0, 1) := by decide +kernel
theorem dX8_door_52 : decode cX8_door 52 = .ok (.iconst 5, 1) := by decide +kernel
theorem dX8_door_53 : decode cX8_door 53 = .ok (.invokestatic 36, 3) := by decide +kernel
theorem dX8_door_56 : decode cX8_door 56 = .ok (.ifCond .ne 5, 3) := by decide +kernel
theorem dX8_door_59 : decode cX8_door 59 = .ok (.iconst (-1), 1) := by decide +kernel
theorem dX8_door_60 : decode cX8_door 60 = .ok (.ireturn, 1) := by decide +kernel
theorem dX8_door_61 : decode cX8_door 61 = .ok (.aload_n 0, 1) := by decide +kernel
theorem dX8_door_62 : decode cX8_door 62 = .ok (.iload_n 1, 1) := by decide +kernel
theorem dX8_door_63 : decode cX8_door 63 = .ok (.iload_n 3, 1) := by decide +kernel
theorem dX8_door_64 : decode cX8_door 64 = .ok (.invokevirtual 58, 3) := by decide +kernel
theorem dX8_door_67 : decode cX8_door 67 = .ok (.ifCond .eq 12, 3) := by decide +kernel
theorem dX8_door_70 : decode cX8_door 70 = .ok (.aload_n 0, 1) := by decide +kernel
theorem dX8_door_71 : decode cX8_door 71 = .ok (.iload_n 2, 1) := by decide +kernel
theorem dX8_door_72 : decode cX8_door 72 = .ok (.iload_n 3, 1) := by decide +kernel
theorem dX8_door_73 : decode cX8_door 73 = .ok (.invokevirtual 58, 3) := by decide +kernel
theorem dX8_door_76 : decode cX8_door 76 = .ok (.ifCond .ne 6, 3) := by decide +kernel
theorem dX8_door_79 : decode cX8_door 79 = .ok (.bipush (-2), 2) := by decide +kernel
theorem dX8_door_81 : decode cX8_door 81 = .ok (.ireturn, 1) := by decide +kernel
theorem dX8_door_82 : decode cX8_door 82 = .ok (.aload_n 0, 1) := by decide +kernel
theorem dX8_door_83 : decode cX8_door 83 = .ok (.getfield 7, 3) := by decide +kernel
theorem dX8_door_86 : decode cX8_door 86 = .ok (.iconst 1, 1) := by decide +kernel
theorem dX8_door_87 : decode cX8_door 87 = .ok (.iaload, 1) := by decide +kernel
theorem dX8_door_88 : decode cX8_door 88 = .ok (.bipush 12, 2) := by decide +kernel
theorem dX8_door_90 : decode cX8_door 90 = .ok (.if_icmp .ne 6, 3) := by decide +kernel
theorem dX8_door_93 : decode cX8_door 93 = .ok (.bipush (-3), 2) := by decide +kernel
theorem dX8_door_95 : decode cX8_door 95 = .ok (.ireturn, 1) := by decide +kernel
theorem dX8_door_96 : decode cX8_door 96 = .ok (.aload_n 0, 1) := by decide +kernel
theorem dX8_door_97 : decode cX8_door 97 = .ok (.invokevirtual 40, 3) := by decide +kernel
theorem dX8_door_100 : decode cX8_door 100 = .ok (.aload_n 0, 1) := by decide +kernel
theorem dX8_door_101 : decode cX8_door 101 = .ok (.getfield 7, 3) := by decide +kernel
theorem dX8_door_104 : decode cX8_door 104 = .ok (.iconst 1, 1) := by decide +kernel
theorem dX8_door_105 : decode cX8_door 105 = .ok (.iaload, 1) := by decide +kernel
theorem dX8_door_106 : decode cX8_door 106 = .ok (.istore 6, 2) := by decide +kernel
theorem dX8_door_108 : decode cX8_door 108 = .ok (.bipush 57, 2) := by decide +kernel
theorem dX8_door_110 : decode cX8_door 110 = .ok (.bipush 10, 2) := by decide +kernel
theorem dX8_door_112 : decode cX8_door 112 = .ok (.iload 6, 2) := by decide +kernel
theorem dX8_door_114 : decode cX8_door 114 = .ok (.imul, 1) := by decide +kernel
theorem dX8_door_115 : decode cX8_door 115 = .ok (.iadd, 1) := by decide +kernel
theorem dX8_door_116 : decode cX8_door 116 = .ok (.istore 7, 2) := by decide +kernel
theorem dX8_door_118 : decode cX8_door 118 = .ok (.iconst 0, 1) := by decide +kernel
theorem dX8_door_119 : decode cX8_door 119 = .ok (.istore 8, 2) := by decide +kernel
theorem dX8_door_121 : decode cX8_door 121 = .ok (.iload 8, 2) := by decide +kernel
theorem dX8_door_123 : decode cX8_door 123 = .ok (.bipush 10, 2) := by decide +kernel
theorem dX8_door_125 : decode cX8_door 125 = .ok (.if_icmp .ge 20, 3) := by decide +kernel
theorem dX8_door_128 : decode cX8_door 128 = .ok (.aload_n 0, 1) := by decide +kernel
theorem dX8_door_129 : decode cX8_door 129 = .ok (.getfield 7, 3) := by decide +kernel
theorem dX8_door_132 : decode cX8_door 132 = .ok (.iload 7, 2) := by decide +kernel
theorem dX8_door_134 : decode cX8_door 134 = .ok (.iload 8, 2) := by decide +kernel
theorem dX8_door_136 : decode cX8_door 136 = .ok (.iadd, 1) := by decide +kernel
theorem dX8_door_137 : decode cX8_door 137 = .ok (.iconst 0, 1) := by decide +kernel
theorem dX8_door_138 : decode cX8_door 138 = .ok (.iastore, 1) := by decide +kernel
theorem dX8_door_139 : decode cX8_door 139 = .ok (.iinc 8 1, 3) := by decide +kernel
theorem dX8_door_142 : decode cX8_door 142 = .ok (.goto (-21), 3) := by decide +kernel
theorem dX8_door_145 : decode cX8_door 145 = .ok (.aload_n 0, 1) := by decide +kernel
theorem dX8_door_146 : decode cX8_door 146 = .ok (.getfield 7, 3) := by decide +kernel
theorem dX8_door_149 : decode cX8_door 149 = .ok (.iload 7, 2) := by decide +kernel
theorem dX8_door_151 : decode cX8_door 151 = .ok (.iload_n 1, 1) := by decide +kernel
theorem dX8_door_152 : decode cX8_door 152 = .ok (.iastore, 1) := by decide +kernel
theorem dX8_door_153 : decode cX8_door 153 = .ok (.aload_n 0, 1) := by decide +kernel
theorem dX8_door_154 : decode cX8_door 154 = .ok (.getfield 7, 3) := by decide +kernel
theorem dX8_door_157 : decode cX8_door 157 = .ok (.iload 7, 2) := by decide +kernel
theorem dX8_door_159 : decode cX8_door 159 = .ok (.iconst 1, 1) := by decide +kernel
theorem dX8_door_160 : decode cX8_door 160 = .ok (.iadd, 1) := by decide +kernel
theorem dX8_door_161 : decode cX8_door 161 = .ok (.iload_n 2, 1) := by decide +kernel
theorem dX8_door_162 : decode cX8_door 162 = .ok (.iastore, 1) := by decide +kernel
theorem dX8_door_163 : decode cX8_door 163 = .ok (.aload_n 0, 1) := by decide +kernel
theorem dX8_door_164 : decode cX8_door 164 = .ok (.getfield 7, 3) := by decide +kernel
theorem dX8_door_167 : decode cX8_door 167 = .ok (.iload 7, 2) := by decide +kernel
theorem dX8_door_169 : decode cX8_door 169 = .ok (.iconst 2, 1) := by decide +kernel
theorem dX8_door_170 : decode cX8_door 170 = .ok (.iadd, 1) := by decide +kernel
theorem dX8_door_171 : decode cX8_door 171 = .ok (.iload_n 3, 1) := by decide +kernel
theorem dX8_door_172 : decode cX8_door 172 = .ok (.iastore, 1) := by decide +kernel
theorem dX8_door_173 : decode cX8_door 173 = .ok (.aload_n 0, 1) := by decide +kernel
theorem dX8_door_174 : decode cX8_door 174 = .ok (.getfield 7, 3) := by decide +kernel
theorem dX8_door_177 : decode cX8_door 177 = .ok (.iload 7, 2) := by decide +kernel
theorem dX8_door_179 : decode cX8_door 179 = .ok (.iconst 3, 1) := by decide +kernel
theorem dX8_door_180 : decode cX8_door 180 = .ok (.iadd, 1) := by decide +kernel
theorem dX8_door_181 : decode cX8_door 181 = .ok (.iload 4, 2) := by decide +kernel
theorem dX8_door_183 : decode cX8_door 183 = .ok (.iastore, 1) := by decide +kernel
theorem dX8_door_184 : decode cX8_door 184 = .ok (.aload_n 0, 1) := by decide +kernel
theorem dX8_door_185 : decode cX8_door 185 = .ok (.getfield 7, 3) := by decide +kernel
theorem dX8_door_188 : decode cX8_door 188 = .ok (.iload 7, 2) := by decide +kernel
theorem dX8_door_190 : decode cX8_door 190 = .ok (.iconst 4, 1) := by decide +kernel
theorem dX8_door_191 : decode cX8_door 191 = .ok (.iadd, 1) := by decide +kernel
theorem dX8_door_192 : decode cX8_door 192 = .ok (.iload 5, 2) := by decide +kernel
theorem dX8_door_194 : decode cX8_door 194 = .ok (.iastore, 1) := by decide +kernel
theorem dX8_door_195 : decode cX8_door 195 = .ok (.iconst 0, 1) := by decide +kernel
theorem dX8_door_196 : decode cX8_door 196 = .ok (.istore 8, 2) := by decide +kernel
theorem dX8_door_198 : decode cX8_door 198 = .ok (.iload 8, 2) := by decide +kernel
theorem dX8_door_200 : decode cX8_door 200 = .ok (.bipush 12, 2) := by decide +kernel
theorem dX8_door_202 : decode cX8_door 202 = .ok (.if_icmp .ge 27, 3) := by decide +kernel
theorem dX8_door_205 : decode cX8_door 205 = .ok (.aload_n 0, 1) := by decide +kernel
theorem dX8_door_206 : decode cX8_door 206 = .ok (.getfield 7, 3) := by decide +kernel
theorem dX8_door_209 : decode cX8_door 209 = .ok (.sipush 177, 3) := by decide +kernel
theorem dX8_door_212 : decode cX8_door 212 = .ok (.bipush 12, 2) := by decide +kernel
theorem dX8_door_214 : decode cX8_door 214 = .ok (.iload 6, 2) := by decide +kernel
theorem dX8_door_216 : decode cX8_door 216 = .ok (.imul, 1) := by decide +kernel
theorem dX8_door_217 : decode cX8_door 217 = .ok (.iadd, 1) := by decide +kernel
theorem dX8_door_218 : decode cX8_door 218 = .ok (.iload 8, 2) := by decide +kernel
theorem dX8_door_220 : decode cX8_door 220 = .ok (.iadd, 1) := by decide +kernel
theorem dX8_door_221 : decode cX8_door 221 = .ok (.iconst 0, 1) := by decide +kernel
theorem dX8_door_222 : decode cX8_door 222 = .ok (.iastore, 1) := by decide +kernel
theorem dX8_door_223 : decode cX8_door 223 = .ok (.iinc 8 1, 3) := by decide +kernel
theorem dX8_door_226 : decode cX8_door 226 = .ok (.goto (-28), 3) := by decide +kernel
theorem dX8_door_229 : decode cX8_door 229 = .ok (.aload_n 0, 1) := by decide +kernel
theorem dX8_door_230 : decode cX8_door 230 = .ok (.getfield 7, 3) := by decide +kernel
theorem dX8_door_233 : decode cX8_door 233 = .ok (.iconst 1, 1) := by decide +kernel
theorem dX8_door_234 : decode cX8_door 234 = .ok (.dup2, 1) := by decide +kernel
theorem dX8_door_235 : decode cX8_door 235 = .ok (.iaload, 1) := by decide +kernel
theorem dX8_door_236 : decode cX8_door 236 = .ok (.iconst 1, 1) := by decide +kernel
theorem dX8_door_237 : decode cX8_door 237 = .ok (.iadd, 1) := by decide +kernel
theorem dX8_door_238 : decode cX8_door 238 = .ok (.iastore, 1) := by decide +kernel
theorem dX8_door_239 : decode cX8_door 239 = .ok (.iload 6, 2) := by decide +kernel
theorem dX8_door_241 : decode cX8_door 241 = .ok (.ireturn, 1) := by decide +kernel
set_option maxRecDepth 20000 in
theorem ggX8_densityOf_X8_inRoom : GoodIn wsX8_densityOf wsX8_inRoom := goodIn_r _ [5] (by decide +kernel) (by decide +kernel)
set_option maxRecDepth 20000 in
theorem gX8_densityOf_X8_inRoom : GoodIn wsX8_densityOf (va_wsS RX8 51 yX8_inRoom wsX8_inRoom) := goodIn_app (goodIn_of _ (by decide +kernel)) ggX8_densityOf_X8_inRoom
theorem dX8_densityOf_0 : decode cX8_densityOf 0 = .ok (.iload_n 1, 1) := by decide +kernel
theorem dX8_densityOf_1 : decode cX8_densityOf 1 = .ok (.bipush 8, 2) := by decide +kernel
theorem dX8_densityOf_3 : decode cX8_densityOf 3 = .ok (.if_icmp .ne 7, 3) := by decide +kernel
theorem dX8_densityOf_6 : decode cX8_densityOf 6 = .ok (.iconst 0, 1) := by decide +kernel
theorem dX8_densityOf_7 : decode cX8_densityOf 7 = .ok (.goto 22, 3) := by decide +kernel
theorem dX8_densityOf_10 : decode cX8_densityOf 10 = .ok (.aload_n 0, 1) := by decide +kernel
theorem dX8_densityOf_11 : decode cX8_densityOf 11 = .ok (.getfield 7, 3) := by decide +kernel
theorem dX8_densityOf_14 : decode cX8_densityOf 14 = .ok (.iload_n 1, 1) := by decide +kernel
theorem dX8_densityOf_15 : decode cX8_densityOf 15 = .ok (.iconst 2, 1) := by decide +kernel
theorem dX8_densityOf_16 : decode cX8_densityOf 16 = .ok (.invokestatic 51, 3) := by decide +kernel
theorem dX8_densityOf_19 : decode cX8_densityOf 19 = .ok (.aload_n 0, 1) := by decide +kernel
theorem dX8_densityOf_20 : decode cX8_densityOf 20 = .ok (.getfield 7, 3) := by decide +kernel
theorem dX8_densityOf_23 : decode cX8_densityOf 23 = .ok (.iload_n 1, 1) := by decide +kernel
theorem dX8_densityOf_24 : decode cX8_densityOf 24 = .ok (.iconst 0, 1) := by decide +kernel
theorem dX8_densityOf_25 : decode cX8_densityOf 25 = .ok (.invokestatic 51, 3) := by decide +kernel
theorem dX8_densityOf_28 : decode cX8_densityOf 28 = .ok (.idiv, 1) := by decide +kernel
theorem dX8_densityOf_29 : decode cX8_densityOf 29 = .ok (.ireturn, 1) := by decide +kernel
set_option maxRecDepth 20000 in
theorem ggX8_reason_X8_ofDoor : GoodIn wsX8_reason wsX8_ofDoor := goodIn_r _ [5] (by decide +kernel) (by decide +kernel)
set_option maxRecDepth 20000 in
theorem gX8_reason_X8_ofDoor : GoodIn wsX8_reason (va_wsS RX8 43 yX8_ofDoor wsX8_ofDoor) := goodIn_app (goodIn_of _ (by decide +kernel)) ggX8_reason_X8_ofDoor
set_option maxRecDepth 20000 in
theorem ggX8_reason_X8_densityOf : GoodIn wsX8_reason wsX8_densityOf := goodIn_r _ [9, 1, 10, 11, 4, 12, 13, 14, 15, 16, 17, 18, 19, 20, 21, 22, 23, 24, 25] (by decide +kernel) (by decide +kernel)
set_option maxRecDepth 20000 in
theorem gX8_reason_X8_densityOf : GoodIn wsX8_reason (wsV RX8 62 RX8 yX8_densityOf wsX8_densityOf) := goodIn_app (goodIn_of _ (by decide +kernel)) ggX8_reason_X8_densityOf
theorem dX8_reason_0 : decode cX8_reason 0 = .ok (.aload_n 0, 1) := by decide +kernel
theorem dX8_reason_1 : decode cX8_reason 1 = .ok (.aload_n 0, 1) := by decide +kernel
theorem dX8_reason_2 : decode cX8_reason 2 = .ok (.getfield 7, 3) := by decide +kernel
theorem dX8_reason_5 : decode cX8_reason 5 = .ok (.iload_n 1, 1) := by decide +kernel
theorem dX8_reason_6 : decode cX8_reason 6 = .ok (.iconst 0, 1) := by decide +kernel
theorem dX8_reason_7 : decode cX8_reason 7 = .ok (.invokestatic 43, 3) := by decide +kernel
theorem dX8_reason_10 : decode cX8_reason 10 = .ok (.invokevirtual 62, 3) := by decide +kernel
theorem dX8_reason_13 : decode cX8_reason 13 = .ok (.aload_n 0, 1) := by decide +kernel
theorem dX8_reason_14 : decode cX8_reason 14 = .ok (.aload_n 0, 1) := by decide +kernel
theorem dX8_reason_15 : decode cX8_reason 15 = .ok (.getfield 7, 3) := by decide +kernel
theorem dX8_reason_18 : decode cX8_reason 18 = .ok (.iload_n 1, 1) := by decide +kernel
theorem dX8_reason_19 : decode cX8_reason 19 = .ok (.iconst 1, 1) := by decide +kernel
theorem dX8_reason_20 : decode cX8_reason 20 = .ok (.invokestatic 43, 3) := by decide +kernel
theorem dX8_reason_23 : decode cX8_reason 23 = .ok (.invokevirtual 62, 3) := by decide +kernel
theorem dX8_reason_26 : decode cX8_reason 26 = .ok (.isub, 1) := by decide +kernel
theorem dX8_reason_27 : decode cX8_reason 27 = .ok (.istore_n 3, 1) := by decide +kernel
theorem dX8_reason_28 : decode cX8_reason 28 = .ok (.iload_n 3, 1) := by decide +kernel
theorem dX8_reason_29 : decode cX8_reason 29 = .ok (.ifCond .ge 8, 3) := by decide +kernel
theorem dX8_reason_32 : decode cX8_reason 32 = .ok (.iload_n 3, 1) := by decide +kernel
theorem dX8_reason_33 : decode cX8_reason 33 = .ok (.ineg, 1) := by decide +kernel
theorem dX8_reason_34 : decode cX8_reason 34 = .ok (.goto 4, 3) := by decide +kernel
theorem dX8_reason_37 : decode cX8_reason 37 = .ok (.iload_n 3, 1) := by decide +kernel
theorem dX8_reason_38 : decode cX8_reason 38 = .ok (.istore_n 3, 1) := by decide +kernel
theorem dX8_reason_39 : decode cX8_reason 39 = .ok (.aload_n 0, 1) := by decide +kernel
theorem dX8_reason_40 : decode cX8_reason 40 = .ok (.getfield 7, 3) := by decide +kernel
theorem dX8_reason_43 : decode cX8_reason 43 = .ok (.iload_n 1, 1) := by decide +kernel
theorem dX8_reason_44 : decode cX8_reason 44 = .ok (.bipush 7, 2) := by decide +kernel
theorem dX8_reason_46 : decode cX8_reason 46 = .ok (.invokestatic 43, 3) := by decide +kernel
theorem dX8_reason_49 : decode cX8_reason 49 = .ok (.iconst 1, 1) := by decide +kernel
theorem dX8_reason_50 : decode cX8_reason 50 = .ok (.if_icmp .ne 5, 3) := by decide +kernel
theorem dX8_reason_53 : decode cX8_reason 53 = .ok (.iconst 1, 1) := by decide +kernel
theorem dX8_reason_54 : decode cX8_reason 54 = .ok (.ireturn, 1) := by decide +kernel
theorem dX8_reason_55 : decode cX8_reason 55 = .ok (.aload_n 0, 1) := by decide +kernel
theorem dX8_reason_56 : decode cX8_reason 56 = .ok (.getfield 7, 3) := by decide +kernel
theorem dX8_reason_59 : decode cX8_reason 59 = .ok (.iload_n 1, 1) := by decide +kernel
theorem dX8_reason_60 : decode cX8_reason 60 = .ok (.bipush 6, 2) := by decide +kernel
theorem dX8_reason_62 : decode cX8_reason 62 = .ok (.invokestatic 43, 3) := by decide +kernel
theorem dX8_reason_65 : decode cX8_reason 65 = .ok (.iload_n 2, 1) := by decide +kernel
theorem dX8_reason_66 : decode cX8_reason 66 = .ok (.if_icmp .ne 7, 3) := by decide +kernel
theorem dX8_reason_69 : decode cX8_reason 69 = .ok (.iconst 2, 1) := by decide +kernel
theorem dX8_reason_70 : decode cX8_reason 70 = .ok (.goto 32, 3) := by decide +kernel
theorem dX8_reason_73 : decode cX8_reason 73 = .ok (.iload_n 2, 1) := by decide +kernel
theorem dX8_reason_74 : decode cX8_reason 74 = .ok (.aload_n 0, 1) := by decide +kernel
theorem dX8_reason_75 : decode cX8_reason 75 = .ok (.getfield 7, 3) := by decide +kernel
theorem dX8_reason_78 : decode cX8_reason 78 = .ok (.iload_n 1, 1) := by decide +kernel
theorem dX8_reason_79 : decode cX8_reason 79 = .ok (.iconst 5, 1) := by decide +kernel
theorem dX8_reason_80 : decode cX8_reason 80 = .ok (.invokestatic 43, 3) := by decide +kernel
theorem dX8_reason_83 : decode cX8_reason 83 = .ok (.if_icmp .le 18, 3) := by decide +kernel
theorem dX8_reason_86 : decode cX8_reason 86 = .ok (.iload_n 3, 1) := by decide +kernel
theorem dX8_reason_87 : decode cX8_reason 87 = .ok (.aload_n 0, 1) := by decide +kernel
theorem dX8_reason_88 : decode cX8_reason 88 = .ok (.getfield 7, 3) := by decide +kernel
theorem dX8_reason_91 : decode cX8_reason 91 = .ok (.bipush 7, 2) := by decide +kernel
theorem dX8_reason_93 : decode cX8_reason 93 = .ok (.iaload, 1) := by decide +kernel
theorem dX8_reason_94 : decode cX8_reason 94 = .ok (.if_icmp .le 7, 3) := by decide +kernel
theorem dX8_reason_97 : decode cX8_reason 97 = .ok (.iconst 3, 1) := by decide +kernel
theorem dX8_reason_98 : decode cX8_reason 98 = .ok (.goto 4, 3) := by decide +kernel
theorem dX8_reason_101 : decode cX8_reason 101 = .ok (.iconst 0, 1) := by decide +kernel
theorem dX8_reason_102 : decode cX8_reason 102 = .ok (.ireturn, 1) := by decide +kernel
set_option maxRecDepth 20000 in
theorem ggX8_open_X8_isDoor : GoodIn wsX8_open wsX8_isDoor := goodIn_r _ [6, 1, 30, 31, 32, 33, 34, 35, 36, 37, 38, 39, 40, 41, 42] (by decide +kernel) (by decide +kernel)
set_option maxRecDepth 20000 in
theorem gX8_open_X8_isDoor : GoodIn wsX8_open (wsV RX8 65 RX8 yX8_isDoor wsX8_isDoor) := goodIn_app (goodIn_of _ (by decide +kernel)) ggX8_open_X8_isDoor
set_option maxRecDepth 20000 in
theorem ggX8_open_X8_in : GoodIn wsX8_open wsX8_in := goodIn_r _ [9] (by decide +kernel) (by decide +kernel)
set_option maxRecDepth 20000 in
theorem gX8_open_X8_in : GoodIn wsX8_open (va_wsS RX8 36 yX8_in wsX8_in) := goodIn_app (goodIn_of _ (by decide +kernel)) ggX8_open_X8_in
set_option maxRecDepth 20000 in
theorem ggX8_open_X8_reason : GoodIn wsX8_open wsX8_reason := goodIn_r _ [13, 1, 14, 15, 5, 16, 17, 18, 19, 20, 21, 22, 23, 30, 31, 32, 33, 34, 35, 36, 37, 38, 39, 40, 41, 42] (by decide +kernel) (by decide +kernel)
set_option maxRecDepth 20000 in
theorem gX8_open_X8_reason : GoodIn wsX8_open (wsV RX8 68 RX8 yX8_reason wsX8_reason) := goodIn_app (goodIn_of _ (by decide +kernel)) ggX8_open_X8_reason
set_option maxRecDepth 20000 in
theorem ggX8_open_X8_changes : GoodIn wsX8_open wsX8_changes := goodIn_r _ [27, 28, 29, 1, 30, 31, 32, 33, 34, 35, 36, 37, 38, 39, 40, 41, 42] (by decide +kernel) (by decide +kernel)
set_option maxRecDepth 20000 in
theorem gX8_open_X8_changes : GoodIn wsX8_open (wsV RX8 40 RX8 yX8_changes wsX8_changes) := goodIn_app (goodIn_of _ (by decide +kernel)) ggX8_open_X8_changes
set_option maxRecDepth 20000 in
theorem ggX8_open_X8_ofDoor : GoodIn wsX8_open wsX8_ofDoor := goodIn_r _ [16] (by decide +kernel) (by decide +kernel)
set_option maxRecDepth 20000 in
theorem gX8_open_X8_ofDoor : GoodIn wsX8_open (va_wsS RX8 43 yX8_ofDoor wsX8_ofDoor) := goodIn_app (goodIn_of _ (by decide +kernel)) ggX8_open_X8_ofDoor
theorem dX8_open_0 : decode cX8_open 0 = .ok (.aload_n 0, 1) := by decide +kernel
theorem dX8_open_1 : decode cX8_open 1 = .ok (.iload_n 1, 1) := by decide +kernel
theorem dX8_open_2 : decode cX8_open 2 = .ok (.invokevirtual 65, 3) := by decide +kernel
theorem dX8_open_5 : decode cX8_open 5 = .ok (.ifCond .eq 13, 3) := by decide +kernel
theorem dX8_open_8 : decode cX8_open 8 = .ok (.iload_n 2, 1) := by decide +kernel
theorem dX8_open_9 : decode cX8_open 9 = .ok (.iconst 0, 1) := by decide +kernel
theorem dX8_open_10 : decode cX8_open 10 = .ok (.bipush 10, 2) := by decide +kernel
theorem dX8_open_12 : decode cX8_open 12 = .ok (.invokestatic 36, 3) := by decide +kernel
theorem dX8_open_15 : decode cX8_open 15 = .ok (.ifCond .ne 5, 3) := by decide +kernel
theorem dX8_open_18 : decode cX8_open 18 = .ok (.iconst (-1), 1) := by decide +kernel
theorem dX8_open_19 : decode cX8_open 19 = .ok (.ireturn, 1) := by decide +kernel
theorem dX8_open_20 : decode cX8_open 20 = .ok (.aload_n 0, 1) := by decide +kernel
theorem dX8_open_21 : decode cX8_open 21 = .ok (.iload_n 1, 1) := by decide +kernel
theorem dX8_open_22 : decode cX8_open 22 = .ok (.iload_n 2, 1) := by decide +kernel
theorem dX8_open_23 : decode cX8_open 23 = .ok (.invokevirtual 68, 3) := by decide +kernel
theorem dX8_open_26 : decode cX8_open 26 = .ok (.ifCond .eq 6, 3) := by decide +kernel
theorem dX8_open_29 : decode cX8_open 29 = .ok (.bipush (-2), 2) := by decide +kernel
theorem dX8_open_31 : decode cX8_open 31 = .ok (.ireturn, 1) := by decide +kernel
theorem dX8_open_32 : decode cX8_open 32 = .ok (.aload_n 0, 1) := by decide +kernel
theorem dX8_open_33 : decode cX8_open 33 = .ok (.invokevirtual 40, 3) := by decide +kernel
theorem dX8_open_36 : decode cX8_open 36 = .ok (.aload_n 0, 1) := by decide +kernel
theorem dX8_open_37 : decode cX8_open 37 = .ok (.getfield 7, 3) := by decide +kernel
theorem dX8_open_40 : decode cX8_open 40 = .ok (.iload_n 1, 1) := by decide +kernel
theorem dX8_open_41 : decode cX8_open 41 = .ok (.bipush 6, 2) := by decide +kernel
theorem dX8_open_43 : decode cX8_open 43 = .ok (.invokestatic 43, 3) := by decide +kernel
theorem dX8_open_46 : decode cX8_open 46 = .ok (.istore_n 3, 1) := by decide +kernel
theorem dX8_open_47 : decode cX8_open 47 = .ok (.aload_n 0, 1) := by decide +kernel
theorem dX8_open_48 : decode cX8_open 48 = .ok (.getfield 7, 3) := by decide +kernel
theorem dX8_open_51 : decode cX8_open 51 = .ok (.bipush 57, 2) := by decide +kernel
theorem dX8_open_53 : decode cX8_open 53 = .ok (.bipush 10, 2) := by decide +kernel
theorem dX8_open_55 : decode cX8_open 55 = .ok (.iload_n 1, 1) := by decide +kernel
theorem dX8_open_56 : decode cX8_open 56 = .ok (.imul, 1) := by decide +kernel
theorem dX8_open_57 : decode cX8_open 57 = .ok (.iadd, 1) := by decide +kernel
theorem dX8_open_58 : decode cX8_open 58 = .ok (.bipush 6, 2) := by decide +kernel
theorem dX8_open_60 : decode cX8_open 60 = .ok (.iadd, 1) := by decide +kernel
theorem dX8_open_61 : decode cX8_open 61 = .ok (.iload_n 2, 1) := by decide +kernel
theorem dX8_open_62 : decode cX8_open 62 = .ok (.iastore, 1) := by decide +kernel
theorem dX8_open_63 : decode cX8_open 63 = .ok (.iload_n 3, 1) := by decide +kernel
theorem dX8_open_64 : decode cX8_open 64 = .ok (.ireturn, 1) := by decide +kernel
set_option maxRecDepth 20000 in
theorem ggX8_refusal_X8_isDoor : GoodIn wsX8_refusal wsX8_isDoor := goodIn_r _ [5, 6, 24, 25, 26, 27, 28, 29, 30, 31, 32, 33, 34, 35, 36] (by decide +kernel) (by decide +kernel)
set_option maxRecDepth 20000 in
theorem gX8_refusal_X8_isDoor : GoodIn wsX8_refusal (wsV RX8 65 RX8 yX8_isDoor wsX8_isDoor) := goodIn_app (goodIn_of _ (by decide +kernel)) ggX8_refusal_X8_isDoor
set_option maxRecDepth 20000 in
theorem ggX8_refusal_X8_in : GoodIn wsX8_refusal wsX8_in := goodIn_r _ [9] (by decide +kernel) (by decide +kernel)
set_option maxRecDepth 20000 in
theorem gX8_refusal_X8_in : GoodIn wsX8_refusal (va_wsS RX8 36 yX8_in wsX8_in) := goodIn_app (goodIn_of _ (by decide +kernel)) ggX8_refusal_X8_in
set_option maxRecDepth 20000 in
theorem ggX8_refusal_X8_reason : GoodIn wsX8_refusal wsX8_reason := goodIn_r _ [13, 6, 14, 15, 4, 16, 17, 18, 19, 20, 21, 22, 23, 24, 25, 26, 27, 28, 29, 30, 31, 32, 33, 34, 35, 36] (by decide +kernel) (by decide +kernel)
set_option maxRecDepth 20000 in
theorem gX8_refusal_X8_reason : GoodIn wsX8_refusal (wsV RX8 68 RX8 yX8_reason wsX8_reason) := goodIn_app (goodIn_of _ (by decide +kernel)) ggX8_refusal_X8_reason
theorem dX8_refusal_0 : decode cX8_refusal 0 = .ok (.aload_n 0, 1) := by decide +kernel
theorem dX8_refusal_1 : decode cX8_refusal 1 = .ok (.iload_n 1, 1) := by decide +kernel
theorem dX8_refusal_2 : decode cX8_refusal 2 = .ok (.invokevirtual 65, 3) := by decide +kernel
theorem dX8_refusal_5 : decode cX8_refusal 5 = .ok (.ifCond .eq 13, 3) := by decide +kernel
theorem dX8_refusal_8 : decode cX8_refusal 8 = .ok (.iload_n 2, 1) := by decide +kernel
theorem dX8_refusal_9 : decode cX8_refusal 9 = .ok (.iconst 0, 1) := by decide +kernel
theorem dX8_refusal_10 : decode cX8_refusal 10 = .ok (.bipush 10, 2) := by decide +kernel
theorem dX8_refusal_12 : decode cX8_refusal 12 = .ok (.invokestatic 36, 3) := by decide +kernel
theorem dX8_refusal_15 : decode cX8_refusal 15 = .ok (.ifCond .ne 7, 3) := by decide +kernel
theorem dX8_refusal_18 : decode cX8_refusal 18 = .ok (.iconst (-1), 1) := by decide +kernel
theorem dX8_refusal_19 : decode cX8_refusal 19 = .ok (.goto 9, 3) := by decide +kernel
theorem dX8_refusal_22 : decode cX8_refusal 22 = .ok (.aload_n 0, 1) := by decide +kernel
theorem dX8_refusal_23 : decode cX8_refusal 23 = .ok (.iload_n 1, 1) := by decide +kernel
theorem dX8_refusal_24 : decode cX8_refusal 24 = .ok (.iload_n 2, 1) := by decide +kernel
theorem dX8_refusal_25 : decode cX8_refusal 25 = .ok (.invokevirtual 68, 3) := by decide +kernel
theorem dX8_refusal_28 : decode cX8_refusal 28 = .ok (.ireturn, 1) := by decide +kernel
set_option maxRecDepth 20000 in
theorem ggX8_lock_X8_isDoor : GoodIn wsX8_lock wsX8_isDoor := goodIn_r _ [6, 1, 16, 17, 18, 19, 20, 21, 22, 23, 24, 25, 26, 27, 28] (by decide +kernel) (by decide +kernel)
set_option maxRecDepth 20000 in
theorem gX8_lock_X8_isDoor : GoodIn wsX8_lock (wsV RX8 65 RX8 yX8_isDoor wsX8_isDoor) := goodIn_app (goodIn_of _ (by decide +kernel)) ggX8_lock_X8_isDoor
set_option maxRecDepth 20000 in
theorem ggX8_lock_X8_in : GoodIn wsX8_lock wsX8_in := goodIn_r _ [9] (by decide +kernel) (by decide +kernel)
set_option maxRecDepth 20000 in
theorem gX8_lock_X8_in : GoodIn wsX8_lock (va_wsS RX8 36 yX8_in wsX8_in) := goodIn_app (goodIn_of _ (by decide +kernel)) ggX8_lock_X8_in
set_option maxRecDepth 20000 in
theorem ggX8_lock_X8_changes : GoodIn wsX8_lock wsX8_changes := goodIn_r _ [13, 14, 15, 1, 16, 17, 18, 19, 20, 21, 22, 23, 24, 25, 26, 27, 28] (by decide +kernel) (by decide +kernel)
set_option maxRecDepth 20000 in
theorem gX8_lock_X8_changes : GoodIn wsX8_lock (wsV RX8 40 RX8 yX8_changes wsX8_changes) := goodIn_app (goodIn_of _ (by decide +kernel)) ggX8_lock_X8_changes
theorem dX8_lock_0 : decode cX8_lock 0 = .ok (.aload_n 0, 1) := by decide +kernel
theorem dX8_lock_1 : decode cX8_lock 1 = .ok (.iload_n 1, 1) := by decide +kernel
theorem dX8_lock_2 : decode cX8_lock 2 = .ok (.invokevirtual 65, 3) := by decide +kernel
theorem dX8_lock_5 : decode cX8_lock 5 = .ok (.ifCond .eq 12, 3) := by decide +kernel
theorem dX8_lock_8 : decode cX8_lock 8 = .ok (.iload_n 2, 1) := by decide +kernel
theorem dX8_lock_9 : decode cX8_lock 9 = .ok (.iconst 0, 1) := by decide +kernel
theorem dX8_lock_10 : decode cX8_lock 10 = .ok (.iconst 1, 1) := by decide +kernel
theorem dX8_lock_11 : decode cX8_lock 11 = .ok (.invokestatic 36, 3) := by decide +kernel
theorem dX8_lock_14 : decode cX8_lock 14 = .ok (.ifCond .ne 5, 3) := by decide +kernel
theorem dX8_lock_17 : decode cX8_lock 17 = .ok (.iconst (-1), 1) := by decide +kernel
theorem dX8_lock_18 : decode cX8_lock 18 = .ok (.ireturn, 1) := by decide +kernel
theorem dX8_lock_19 : decode cX8_lock 19 = .ok (.bipush 57, 2) := by decide +kernel
theorem dX8_lock_21 : decode cX8_lock 21 = .ok (.bipush 10, 2) := by decide +kernel
theorem dX8_lock_23 : decode cX8_lock 23 = .ok (.iload_n 1, 1) := by decide +kernel
theorem dX8_lock_24 : decode cX8_lock 24 = .ok (.imul, 1) := by decide +kernel
theorem dX8_lock_25 : decode cX8_lock 25 = .ok (.iadd, 1) := by decide +kernel
theorem dX8_lock_26 : decode cX8_lock 26 = .ok (.istore_n 3, 1) := by decide +kernel
theorem dX8_lock_27 : decode cX8_lock 27 = .ok (.aload_n 0, 1) := by decide +kernel
theorem dX8_lock_28 : decode cX8_lock 28 = .ok (.getfield 7, 3) := by decide +kernel
theorem dX8_lock_31 : decode cX8_lock 31 = .ok (.iload_n 3, 1) := by decide +kernel
theorem dX8_lock_32 : decode cX8_lock 32 = .ok (.bipush 7, 2) := by decide +kernel
theorem dX8_lock_34 : decode cX8_lock 34 = .ok (.iadd, 1) := by decide +kernel
theorem dX8_lock_35 : decode cX8_lock 35 = .ok (.iaload, 1) := by decide +kernel
theorem dX8_lock_36 : decode cX8_lock 36 = .ok (.iload_n 2, 1) := by decide +kernel
theorem dX8_lock_37 : decode cX8_lock 37 = .ok (.if_icmp .ne 6, 3) := by decide +kernel
theorem dX8_lock_40 : decode cX8_lock 40 = .ok (.bipush (-2), 2) := by decide +kernel
theorem dX8_lock_42 : decode cX8_lock 42 = .ok (.ireturn, 1) := by decide +kernel
theorem dX8_lock_43 : decode cX8_lock 43 = .ok (.aload_n 0, 1) := by decide +kernel
theorem dX8_lock_44 : decode cX8_lock 44 = .ok (.invokevirtual 40, 3) := by decide +kernel
theorem dX8_lock_47 : decode cX8_lock 47 = .ok (.aload_n 0, 1) := by decide +kernel
theorem dX8_lock_48 : decode cX8_lock 48 = .ok (.getfield 7, 3) := by decide +kernel
theorem dX8_lock_51 : decode cX8_lock 51 = .ok (.iload_n 3, 1) := by decide +kernel
theorem dX8_lock_52 : decode cX8_lock 52 = .ok (.bipush 7, 2) := by decide +kernel
theorem dX8_lock_54 : decode cX8_lock 54 = .ok (.iadd, 1) := by decide +kernel
theorem dX8_lock_55 : decode cX8_lock 55 = .ok (.iload_n 2, 1) := by decide +kernel
theorem dX8_lock_56 : decode cX8_lock 56 = .ok (.iastore, 1) := by decide +kernel
theorem dX8_lock_57 : decode cX8_lock 57 = .ok (.aload_n 0, 1) := by decide +kernel
theorem dX8_lock_58 : decode cX8_lock 58 = .ok (.getfield 7, 3) := by decide +kernel
theorem dX8_lock_61 : decode cX8_lock 61 = .ok (.iload_n 3, 1) := by decide +kernel
theorem dX8_lock_62 : decode cX8_lock 62 = .ok (.bipush 6, 2) := by decide +kernel
theorem dX8_lock_64 : decode cX8_lock 64 = .ok (.iadd, 1) := by decide +kernel
theorem dX8_lock_65 : decode cX8_lock 65 = .ok (.iload_n 2, 1) := by decide +kernel
theorem dX8_lock_66 : decode cX8_lock 66 = .ok (.iconst 1, 1) := by decide +kernel
theorem dX8_lock_67 : decode cX8_lock 67 = .ok (.if_icmp .ne 14, 3) := by decide +kernel
theorem dX8_lock_70 : decode cX8_lock 70 = .ok (.aload_n 0, 1) := by decide +kernel
theorem dX8_lock_71 : decode cX8_lock 71 = .ok (.getfield 7, 3) := by decide +kernel
theorem dX8_lock_74 : decode cX8_lock 74 = .ok (.iload_n 3, 1) := by decide +kernel
theorem dX8_lock_75 : decode cX8_lock 75 = .ok (.iconst 5, 1) := by decide +kernel
theorem dX8_lock_76 : decode cX8_lock 76 = .ok (.iadd, 1) := by decide +kernel
theorem dX8_lock_77 : decode cX8_lock 77 = .ok (.iaload, 1) := by decide +kernel
theorem dX8_lock_78 : decode cX8_lock 78 = .ok (.goto 12, 3) := by decide +kernel
theorem dX8_lock_81 : decode cX8_lock 81 = .ok (.aload_n 0, 1) := by decide +kernel
theorem dX8_lock_82 : decode cX8_lock 82 = .ok (.getfield 7, 3) := by decide +kernel
theorem dX8_lock_85 : decode cX8_lock 85 = .ok (.iload_n 3, 1) := by decide +kernel
theorem dX8_lock_86 : decode cX8_lock 86 = .ok (.bipush 6, 2) := by decide +kernel
theorem dX8_lock_88 : decode cX8_lock 88 = .ok (.iadd, 1) := by decide +kernel
theorem dX8_lock_89 : decode cX8_lock 89 = .ok (.iaload, 1) := by decide +kernel
theorem dX8_lock_90 : decode cX8_lock 90 = .ok (.iastore, 1) := by decide +kernel
theorem dX8_lock_91 : decode cX8_lock 91 = .ok (.aload_n 0, 1) := by decide +kernel
theorem dX8_lock_92 : decode cX8_lock 92 = .ok (.getfield 7, 3) := by decide +kernel
theorem dX8_lock_95 : decode cX8_lock 95 = .ok (.iload_n 3, 1) := by decide +kernel
theorem dX8_lock_96 : decode cX8_lock 96 = .ok (.iconst 5, 1) := by decide +kernel
theorem dX8_lock_97 : decode cX8_lock 97 = .ok (.iadd, 1) := by decide +kernel
theorem dX8_lock_98 : decode cX8_lock 98 = .ok (.iaload, 1) := by decide +kernel
theorem dX8_lock_99 : decode cX8_lock 99 = .ok (.ireturn, 1) := by decide +kernel
set_option maxRecDepth 20000 in
theorem ggX8_set_X8_in : GoodIn wsX8_set wsX8_in := goodIn_r _ [6] (by decide +kernel) (by decide +kernel)
set_option maxRecDepth 20000 in
theorem gX8_set_X8_in : GoodIn wsX8_set (va_wsS RX8 36 yX8_in wsX8_in) := goodIn_app (goodIn_of _ (by decide +kernel)) ggX8_set_X8_in
set_option maxRecDepth 20000 in
theorem ggX8_set_X8_changes : GoodIn wsX8_set wsX8_changes := goodIn_r _ [10, 11, 12, 2, 13, 14, 15, 16, 17, 18, 19, 20, 21, 22, 23, 24, 25] (by decide +kernel) (by decide +kernel)
set_option maxRecDepth 20000 in
theorem gX8_set_X8_changes : GoodIn wsX8_set (wsV RX8 40 RX8 yX8_changes wsX8_changes) := goodIn_app (goodIn_of _ (by decide +kernel)) ggX8_set_X8_changes
theorem dX8_set_0 : decode cX8_set 0 = .ok (.iload_n 1, 1) := by decide +kernel
theorem dX8_set_1 : decode cX8_set 1 = .ok (.iconst 0, 1) := by decide +kernel
theorem dX8_set_2 : decode cX8_set 2 = .ok (.iconst 1, 1) := by decide +kernel
theorem dX8_set_3 : decode cX8_set 3 = .ok (.invokestatic 36, 3) := by decide +kernel
theorem dX8_set_6 : decode cX8_set 6 = .ok (.ifCond .eq 13, 3) := by decide +kernel
theorem dX8_set_9 : decode cX8_set 9 = .ok (.iload_n 2, 1) := by decide +kernel
theorem dX8_set_10 : decode cX8_set 10 = .ok (.iconst 0, 1) := by decide +kernel
theorem dX8_set_11 : decode cX8_set 11 = .ok (.ldc 31, 2) := by decide +kernel
theorem dX8_set_13 : decode cX8_set 13 = .ok (.invokestatic 36, 3) := by decide +kernel
theorem dX8_set_16 : decode cX8_set 16 = .ok (.ifCond .ne 5, 3) := by decide +kernel
theorem dX8_set_19 : decode cX8_set 19 = .ok (.iconst (-1), 1) := by decide +kernel
theorem dX8_set_20 : decode cX8_set 20 = .ok (.ireturn, 1) := by decide +kernel
theorem dX8_set_21 : decode cX8_set 21 = .ok (.aload_n 0, 1) := by decide +kernel
theorem dX8_set_22 : decode cX8_set 22 = .ok (.invokevirtual 40, 3) := by decide +kernel
theorem dX8_set_25 : decode cX8_set 25 = .ok (.aload_n 0, 1) := by decide +kernel
theorem dX8_set_26 : decode cX8_set 26 = .ok (.getfield 7, 3) := by decide +kernel
theorem dX8_set_29 : decode cX8_set 29 = .ok (.bipush 7, 2) := by decide +kernel
theorem dX8_set_31 : decode cX8_set 31 = .ok (.iload_n 1, 1) := by decide +kernel
theorem dX8_set_32 : decode cX8_set 32 = .ok (.iadd, 1) := by decide +kernel
theorem dX8_set_33 : decode cX8_set 33 = .ok (.iaload, 1) := by decide +kernel
theorem dX8_set_34 : decode cX8_set 34 = .ok (.istore_n 3, 1) := by decide +kernel
theorem dX8_set_35 : decode cX8_set 35 = .ok (.aload_n 0, 1) := by decide +kernel
theorem dX8_set_36 : decode cX8_set 36 = .ok (.getfield 7, 3) := by decide +kernel
theorem dX8_set_39 : decode cX8_set 39 = .ok (.bipush 7, 2) := by decide +kernel
theorem dX8_set_41 : decode cX8_set 41 = .ok (.iload_n 1, 1) := by decide +kernel
theorem dX8_set_42 : decode cX8_set 42 = .ok (.iadd, 1) := by decide +kernel
theorem dX8_set_43 : decode cX8_set 43 = .ok (.iload_n 2, 1) := by decide +kernel
theorem dX8_set_44 : decode cX8_set 44 = .ok (.iastore, 1) := by decide +kernel
theorem dX8_set_45 : decode cX8_set 45 = .ok (.iload_n 3, 1) := by decide +kernel
theorem dX8_set_46 : decode cX8_set 46 = .ok (.ireturn, 1) := by decide +kernel
theorem dX8_level_0 : decode cX8_level 0 = .ok (.bipush (-4), 2) := by decide +kernel
theorem dX8_level_2 : decode cX8_level 2 = .ok (.istore_n 1, 1) := by decide +kernel
theorem dX8_level_3 : decode cX8_level 3 = .ok (.iconst 0, 1) := by decide +kernel
theorem dX8_level_4 : decode cX8_level 4 = .ok (.istore_n 2, 1) := by decide +kernel
theorem dX8_level_5 : decode cX8_level 5 = .ok (.iload_n 2, 1) := by decide +kernel
theorem dX8_level_6 : decode cX8_level 6 = .ok (.bipush 31, 2) := by decide +kernel
theorem dX8_level_8 : decode cX8_level 8 = .ok (.if_icmp .ge 21, 3) := by decide +kernel
theorem dX8_level_11 : decode cX8_level 11 = .ok (.iload_n 0, 1) := by decide +kernel
theorem dX8_level_12 : decode cX8_level 12 = .ok (.iload_n 2, 1) := by decide +kernel
theorem dX8_level_13 : decode cX8_level 13 = .ok (.ishr, 1) := by decide +kernel
theorem dX8_level_14 : decode cX8_level 14 = .ok (.ifCond .le 7, 3) := by decide +kernel
theorem dX8_level_17 : decode cX8_level 17 = .ok (.iload_n 2, 1) := by decide +kernel
theorem dX8_level_18 : decode cX8_level 18 = .ok (.goto 4, 3) := by decide +kernel
theorem dX8_level_21 : decode cX8_level 21 = .ok (.iload_n 1, 1) := by decide +kernel
theorem dX8_level_22 : decode cX8_level 22 = .ok (.istore_n 1, 1) := by decide +kernel
theorem dX8_level_23 : decode cX8_level 23 = .ok (.iinc 2 1, 3) := by decide +kernel
theorem dX8_level_26 : decode cX8_level 26 = .ok (.goto (-21), 3) := by decide +kernel
theorem dX8_level_29 : decode cX8_level 29 = .ok (.iload_n 1, 1) := by decide +kernel
theorem dX8_level_30 : decode cX8_level 30 = .ok (.ireturn, 1) := by decide +kernel
set_option maxRecDepth 20000 in
theorem ggX8_isHeard_X8_entry : GoodIn wsX8_isHeard wsX8_entry := goodIn_r _ [4] (by decide +kernel) (by decide +kernel)
set_option maxRecDepth 20000 in
theorem gX8_isHeard_X8_entry : GoodIn wsX8_isHeard (va_wsS RX8 72 yX8_entry wsX8_entry) := goodIn_app (goodIn_of _ (by decide +kernel)) ggX8_isHeard_X8_entry
set_option maxRecDepth 20000 in
theorem ggX8_isHeard_X8_in : GoodIn wsX8_isHeard wsX8_in := goodIn_r _ [7] (by decide +kernel) (by decide +kernel)
set_option maxRecDepth 20000 in
theorem gX8_isHeard_X8_in : GoodIn wsX8_isHeard (va_wsS RX8 36 yX8_in wsX8_in) := goodIn_app (goodIn_of _ (by decide +kernel)) ggX8_isHeard_X8_in
theorem dX8_isHeard_0 : decode cX8_isHeard 0 = .ok (.aload_n 0, 1) := by decide +kernel
theorem dX8_isHeard_1 : decode cX8_isHeard 1 = .ok (.iload_n 1, 1) := by decide +kernel
theorem dX8_isHeard_2 : decode cX8_isHeard 2 = .ok (.iconst 1, 1) := by decide +kernel
theorem dX8_isHeard_3 : decode cX8_isHeard 3 = .ok (.invokestatic 72, 3) := by decide +kernel
theorem dX8_isHeard_6 : decode cX8_isHeard 6 = .ok (.ifCond .ne 17, 3) := by decide +kernel
theorem dX8_isHeard_9 : decode cX8_isHeard 9 = .ok (.aload_n 0, 1) := by decide +kernel
theorem dX8_isHeard_10 : decode cX8_isHeard 10 = .ok (.iload_n 1, 1) := by decide +kernel
theorem dX8_isHeard_11 : decode cX8_isHeard 11 = .ok (.iconst 2, 1) := by decide +kernel
theorem dX8_isHeard_12 : decode cX8_isHeard 12 = .ok (.invokestatic 72, 3) := by decide +kernel
theorem dX8_isHeard_15 : decode cX8_isHeard 15 = .ok (.iload_n 2, 1) := by decide +kernel
theorem dX8_isHeard_16 : decode cX8_isHeard 16 = .ok (.if_icmp .ne 7, 3) := by decide +kernel
theorem dX8_isHeard_19 : decode cX8_isHeard 19 = .ok (.iconst 1, 1) := by decide +kernel
theorem dX8_isHeard_20 : decode cX8_isHeard 20 = .ok (.goto 4, 3) := by decide +kernel
theorem dX8_isHeard_23 : decode cX8_isHeard 23 = .ok (.iconst 0, 1) := by decide +kernel
theorem dX8_isHeard_24 : decode cX8_isHeard 24 = .ok (.istore_n 3, 1) := by decide +kernel
theorem dX8_isHeard_25 : decode cX8_isHeard 25 = .ok (.iload_n 3, 1) := by decide +kernel
theorem dX8_isHeard_26 : decode cX8_isHeard 26 = .ok (.ifCond .eq 37, 3) := by decide +kernel
theorem dX8_isHeard_29 : decode cX8_isHeard 29 = .ok (.aload_n 0, 1) := by decide +kernel
theorem dX8_isHeard_30 : decode cX8_isHeard 30 = .ok (.iconst 3, 1) := by decide +kernel
theorem dX8_isHeard_31 : decode cX8_isHeard 31 = .ok (.iaload, 1) := by decide +kernel
theorem dX8_isHeard_32 : decode cX8_isHeard 32 = .ok (.aload_n 0, 1) := by decide +kernel
theorem dX8_isHeard_33 : decode cX8_isHeard 33 = .ok (.iload_n 1, 1) := by decide +kernel
theorem dX8_isHeard_34 : decode cX8_isHeard 34 = .ok (.iconst 0, 1) := by decide +kernel
theorem dX8_isHeard_35 : decode cX8_isHeard 35 = .ok (.invokestatic 72, 3) := by decide +kernel
theorem dX8_isHeard_38 : decode cX8_isHeard 38 = .ok (.aload_n 0, 1) := by decide +kernel
theorem dX8_isHeard_39 : decode cX8_isHeard 39 = .ok (.iload_n 1, 1) := by decide +kernel
theorem dX8_isHeard_40 : decode cX8_isHeard 40 = .ok (.iconst 0, 1) := by decide +kernel
theorem dX8_isHeard_41 : decode cX8_isHeard 41 = .ok (.invokestatic 72, 3) := by decide +kernel
theorem dX8_isHeard_44 : decode cX8_isHeard 44 = .ok (.aload_n 0, 1) := by decide +kernel
theorem dX8_isHeard_45 : decode cX8_isHeard 45 = .ok (.iload_n 1, 1) := by decide +kernel
theorem dX8_isHeard_46 : decode cX8_isHeard 46 = .ok (.iconst 3, 1) := by decide +kernel
theorem dX8_isHeard_47 : decode cX8_isHeard 47 = .ok (.invokestatic 72, 3) := by decide +kernel
theorem dX8_isHeard_50 : decode cX8_isHeard 50 = .ok (.iadd, 1) := by decide +kernel
theorem dX8_isHeard_51 : decode cX8_isHeard 51 = .ok (.iconst 1, 1) := by decide +kernel
theorem dX8_isHeard_52 : decode cX8_isHeard 52 = .ok (.isub, 1) := by decide +kernel
theorem dX8_isHeard_53 : decode cX8_isHeard 53 = .ok (.invokestatic 36, 3) := by decide +kernel
theorem dX8_isHeard_56 : decode cX8_isHeard 56 = .ok (.ifCond .eq 7, 3) := by decide +kernel
theorem dX8_isHeard_59 : decode cX8_isHeard 59 = .ok (.iconst 1, 1) := by decide +kernel
theorem dX8_isHeard_60 : decode cX8_isHeard 60 = .ok (.goto 4, 3) := by decide +kernel
theorem dX8_isHeard_63 : decode cX8_isHeard 63 = .ok (.iconst 0, 1) := by decide +kernel
theorem dX8_isHeard_64 : decode cX8_isHeard 64 = .ok (.ireturn, 1) := by decide +kernel
set_option maxRecDepth 20000 in
theorem ggX8_heardIn_X8_isHeard : GoodIn wsX8_heardIn wsX8_isHeard := goodIn_r _ [4, 5, 6, 3, 7, 8, 9, 10] (by decide +kernel) (by decide +kernel)
set_option maxRecDepth 20000 in
theorem gX8_heardIn_X8_isHeard : GoodIn wsX8_heardIn (va_wsS RX8 75 yX8_isHeard wsX8_isHeard) := goodIn_app (goodIn_of _ (by decide +kernel)) ggX8_heardIn_X8_isHeard
theorem dX8_heardIn_0 : decode cX8_heardIn 0 = .ok (.iconst 0, 1) := by decide +kernel
theorem dX8_heardIn_1 : decode cX8_heardIn 1 = .ok (.istore_n 2, 1) := by decide +kernel
theorem dX8_heardIn_2 : decode cX8_heardIn 2 = .ok (.iconst 0, 1) := by decide +kernel
theorem dX8_heardIn_3 : decode cX8_heardIn 3 = .ok (.istore_n 3, 1) := by decide +kernel
theorem dX8_heardIn_4 : decode cX8_heardIn 4 = .ok (.iload_n 3, 1) := by decide +kernel
theorem dX8_heardIn_5 : decode cX8_heardIn 5 = .ok (.aload_n 0, 1) := by decide +kernel
theorem dX8_heardIn_6 : decode cX8_heardIn 6 = .ok (.iconst 2, 1) := by decide +kernel
theorem dX8_heardIn_7 : decode cX8_heardIn 7 = .ok (.iaload, 1) := by decide +kernel
theorem dX8_heardIn_8 : decode cX8_heardIn 8 = .ok (.if_icmp .ge 26, 3) := by decide +kernel
theorem dX8_heardIn_11 : decode cX8_heardIn 11 = .ok (.iload_n 2, 1) := by decide +kernel
theorem dX8_heardIn_12 : decode cX8_heardIn 12 = .ok (.aload_n 0, 1) := by decide +kernel
theorem dX8_heardIn_13 : decode cX8_heardIn 13 = .ok (.iload_n 3, 1) := by decide +kernel
theorem dX8_heardIn_14 : decode cX8_heardIn 14 = .ok (.iload_n 1, 1) := by decide +kernel
theorem dX8_heardIn_15 : decode cX8_heardIn 15 = .ok (.invokestatic 75, 3) := by decide +kernel
theorem dX8_heardIn_18 : decode cX8_heardIn 18 = .ok (.ifCond .eq 7, 3) := by decide +kernel
theorem dX8_heardIn_21 : decode cX8_heardIn 21 = .ok (.iconst 1, 1) := by decide +kernel
theorem dX8_heardIn_22 : decode cX8_heardIn 22 = .ok (.goto 4, 3) := by decide +kernel
theorem dX8_heardIn_25 : decode cX8_heardIn 25 = .ok (.iconst 0, 1) := by decide +kernel
theorem dX8_heardIn_26 : decode cX8_heardIn 26 = .ok (.iadd, 1) := by decide +kernel
theorem dX8_heardIn_27 : decode cX8_heardIn 27 = .ok (.istore_n 2, 1) := by decide +kernel
theorem dX8_heardIn_28 : decode cX8_heardIn 28 = .ok (.iinc 3 1, 3) := by decide +kernel
theorem dX8_heardIn_31 : decode cX8_heardIn 31 = .ok (.goto (-27), 3) := by decide +kernel
theorem dX8_heardIn_34 : decode cX8_heardIn 34 = .ok (.iload_n 2, 1) := by decide +kernel
theorem dX8_heardIn_35 : decode cX8_heardIn 35 = .ok (.ireturn, 1) := by decide +kernel
set_option maxRecDepth 20000 in
theorem ggX8_doorsOf_X8_ofDoor : GoodIn wsX8_doorsOf wsX8_ofDoor := goodIn_r _ [5] (by decide +kernel) (by decide +kernel)
set_option maxRecDepth 20000 in
theorem gX8_doorsOf_X8_ofDoor : GoodIn wsX8_doorsOf (va_wsS RX8 43 yX8_ofDoor wsX8_ofDoor) := goodIn_app (goodIn_of _ (by decide +kernel)) ggX8_doorsOf_X8_ofDoor
theorem dX8_doorsOf_0 : decode cX8_doorsOf 0 = .ok (.iconst 0, 1) := by decide +kernel
theorem dX8_doorsOf_1 : decode cX8_doorsOf 1 = .ok (.istore_n 2, 1) := by decide +kernel
theorem dX8_doorsOf_2 : decode cX8_doorsOf 2 = .ok (.iconst 0, 1) := by decide +kernel
theorem dX8_doorsOf_3 : decode cX8_doorsOf 3 = .ok (.istore_n 3, 1) := by decide +kernel
theorem dX8_doorsOf_4 : decode cX8_doorsOf 4 = .ok (.iload_n 3, 1) := by decide +kernel
theorem dX8_doorsOf_5 : decode cX8_doorsOf 5 = .ok (.aload_n 0, 1) := by decide +kernel
theorem dX8_doorsOf_6 : decode cX8_doorsOf 6 = .ok (.getfield 7, 3) := by decide +kernel
theorem dX8_doorsOf_9 : decode cX8_doorsOf 9 = .ok (.iconst 1, 1) := by decide +kernel
theorem dX8_doorsOf_10 : decode cX8_doorsOf 10 = .ok (.iaload, 1) := by decide +kernel
theorem dX8_doorsOf_11 : decode cX8_doorsOf 11 = .ok (.if_icmp .ge 43, 3) := by decide +kernel
theorem dX8_doorsOf_14 : decode cX8_doorsOf 14 = .ok (.iload_n 2, 1) := by decide +kernel
theorem dX8_doorsOf_15 : decode cX8_doorsOf 15 = .ok (.aload_n 0, 1) := by decide +kernel
theorem dX8_doorsOf_16 : decode cX8_doorsOf 16 = .ok (.getfield 7, 3) := by decide +kernel
theorem dX8_doorsOf_19 : decode cX8_doorsOf 19 = .ok (.iload_n 3, 1) := by decide +kernel
theorem dX8_doorsOf_20 : decode cX8_doorsOf 20 = .ok (.iconst 0, 1) := by decide +kernel
theorem dX8_doorsOf_21 : decode cX8_doorsOf 21 = .ok (.invokestatic 43, 3) := by decide +kernel
theorem dX8_doorsOf_24 : decode cX8_doorsOf 24 = .ok (.iload_n 1, 1) := by decide +kernel
theorem dX8_doorsOf_25 : decode cX8_doorsOf 25 = .ok (.if_icmp .eq 16, 3) := by decide +kernel
theorem dX8_doorsOf_28 : decode cX8_doorsOf 28 = .ok (.aload_n 0, 1) := by decide +kernel
theorem dX8_doorsOf_29 : decode cX8_doorsOf 29 = .ok (.getfield 7, 3) := by decide +kernel
theorem dX8_doorsOf_32 : decode cX8_doorsOf 32 = .ok (.iload_n 3, 1) := by decide +kernel
theorem dX8_doorsOf_33 : decode cX8_doorsOf 33 = .ok (.iconst 1, 1) := by decide +kernel
theorem dX8_doorsOf_34 : decode cX8_doorsOf 34 = .ok (.invokestatic 43, 3) := by decide +kernel
theorem dX8_doorsOf_37 : decode cX8_doorsOf 37 = .ok (.iload_n 1, 1) := by decide +kernel
theorem dX8_doorsOf_38 : decode cX8_doorsOf 38 = .ok (.if_icmp .ne 7, 3) := by decide +kernel
theorem dX8_doorsOf_41 : decode cX8_doorsOf 41 = .ok (.iconst 1, 1) := by decide +kernel
theorem dX8_doorsOf_42 : decode cX8_doorsOf 42 = .ok (.goto 4, 3) := by decide +kernel
theorem dX8_doorsOf_45 : decode cX8_doorsOf 45 = .ok (.iconst 0, 1) := by decide +kernel
theorem dX8_doorsOf_46 : decode cX8_doorsOf 46 = .ok (.iadd, 1) := by decide +kernel
theorem dX8_doorsOf_47 : decode cX8_doorsOf 47 = .ok (.istore_n 2, 1) := by decide +kernel
theorem dX8_doorsOf_48 : decode cX8_doorsOf 48 = .ok (.iinc 3 1, 3) := by decide +kernel
theorem dX8_doorsOf_51 : decode cX8_doorsOf 51 = .ok (.goto (-47), 3) := by decide +kernel
theorem dX8_doorsOf_54 : decode cX8_doorsOf 54 = .ok (.iload_n 2, 1) := by decide +kernel
theorem dX8_doorsOf_55 : decode cX8_doorsOf 55 = .ok (.ireturn, 1) := by decide +kernel
set_option maxRecDepth 20000 in
theorem ggX8_roomOf_X8_isRoom : GoodIn wsX8_roomOf wsX8_isRoom := goodIn_r _ [6, 1, 36, 37, 38, 39, 40, 41, 42, 43, 44, 45, 46, 47, 48] (by decide +kernel) (by decide +kernel)
set_option maxRecDepth 20000 in
theorem gX8_roomOf_X8_isRoom : GoodIn wsX8_roomOf (wsV RX8 54 RX8 yX8_isRoom wsX8_isRoom) := goodIn_app (goodIn_of _ (by decide +kernel)) ggX8_roomOf_X8_isRoom
set_option maxRecDepth 20000 in
theorem ggX8_roomOf_X8_in : GoodIn wsX8_roomOf wsX8_in := goodIn_r _ [9] (by decide +kernel) (by decide +kernel)
set_option maxRecDepth 20000 in
theorem gX8_roomOf_X8_in : GoodIn wsX8_roomOf (va_wsS RX8 36 yX8_in wsX8_in) := goodIn_app (goodIn_of _ (by decide +kernel)) ggX8_roomOf_X8_in
set_option maxRecDepth 20000 in
theorem ggX8_roomOf_X8_densityOf : GoodIn wsX8_roomOf wsX8_densityOf := goodIn_r _ [13, 1, 14, 15, 5, 16, 36, 37, 38, 39, 40, 41, 42, 43, 44, 45, 46, 47, 48] (by decide +kernel) (by decide +kernel)
set_option maxRecDepth 20000 in
theorem gX8_roomOf_X8_densityOf : GoodIn wsX8_roomOf (wsV RX8 62 RX8 yX8_densityOf wsX8_densityOf) := goodIn_app (goodIn_of _ (by decide +kernel)) ggX8_roomOf_X8_densityOf
set_option maxRecDepth 20000 in
theorem ggX8_roomOf_X8_inRoom : GoodIn wsX8_roomOf wsX8_inRoom := goodIn_r _ [16] (by decide +kernel) (by decide +kernel)
set_option maxRecDepth 20000 in
theorem gX8_roomOf_X8_inRoom : GoodIn wsX8_roomOf (va_wsS RX8 51 yX8_inRoom wsX8_inRoom) := goodIn_app (goodIn_of _ (by decide +kernel)) ggX8_roomOf_X8_inRoom
set_option maxRecDepth 20000 in
theorem ggX8_roomOf_X8_level : GoodIn wsX8_roomOf wsX8_level := goodIn_r _ [19] (by decide +kernel) (by decide +kernel)
set_option maxRecDepth 20000 in
theorem gX8_roomOf_X8_level : GoodIn wsX8_roomOf (va_wsS RX8 79 yX8_level wsX8_level) := goodIn_app (goodIn_of _ (by decide +kernel)) ggX8_roomOf_X8_level
set_option maxRecDepth 20000 in
theorem ggX8_roomOf_X8_doorsOf : GoodIn wsX8_roomOf wsX8_doorsOf := goodIn_r _ [23, 1, 24, 25, 5, 26, 36, 37, 38, 39, 40, 41, 42, 43, 44, 45, 46, 47, 48] (by decide +kernel) (by decide +kernel)
set_option maxRecDepth 20000 in
theorem gX8_roomOf_X8_doorsOf : GoodIn wsX8_roomOf (wsV RX8 82 RX8 yX8_doorsOf wsX8_doorsOf) := goodIn_app (goodIn_of _ (by decide +kernel)) ggX8_roomOf_X8_doorsOf
set_option maxRecDepth 20000 in
theorem ggX8_roomOf_X8_heardIn : GoodIn wsX8_roomOf wsX8_heardIn := goodIn_r _ [29, 30, 31, 5, 32, 33, 34, 35, 7, 8, 9] (by decide +kernel) (by decide +kernel)
set_option maxRecDepth 20000 in
theorem gX8_roomOf_X8_heardIn : GoodIn wsX8_roomOf (va_wsS RX8 85 yX8_heardIn wsX8_heardIn) := goodIn_app (goodIn_of _ (by decide +kernel)) ggX8_roomOf_X8_heardIn
theorem dX8_roomOf_0 : decode cX8_roomOf 0 = .ok (.aload_n 0, 1) := by decide +kernel
theorem dX8_roomOf_1 : decode cX8_roomOf 1 = .ok (.iload_n 1, 1) := by decide +kernel
theorem dX8_roomOf_2 : decode cX8_roomOf 2 = .ok (.invokevirtual 54, 3) := by decide +kernel
theorem dX8_roomOf_5 : decode cX8_roomOf 5 = .ok (.ifCond .eq 13, 3) := by decide +kernel
theorem dX8_roomOf_8 : decode cX8_roomOf 8 = .ok (.iload_n 2, 1) := by decide +kernel
theorem dX8_roomOf_9 : decode cX8_roomOf 9 = .ok (.iconst 0, 1) := by decide +kernel
theorem dX8_roomOf_10 : decode cX8_roomOf 10 = .ok (.bipush 8, 2) := by decide +kernel
theorem dX8_roomOf_12 : decode cX8_roomOf 12 = .ok (.invokestatic 36, 3) := by decide +kernel
theorem dX8_roomOf_15 : decode cX8_roomOf 15 = .ok (.ifCond .ne 5, 3) := by decide +kernel
theorem dX8_roomOf_18 : decode cX8_roomOf 18 = .ok (.iconst (-1), 1) := by decide +kernel
theorem dX8_roomOf_19 : decode cX8_roomOf 19 = .ok (.ireturn, 1) := by decide +kernel
theorem dX8_roomOf_20 : decode cX8_roomOf 20 = .ok (.iload_n 2, 1) := by decide +kernel
theorem dX8_roomOf_21 : decode cX8_roomOf 21 = .ok (.tableswitch 85 3 8 #[39, 45, 58, 58, 70, 76], 39) := by decide +kernel
theorem dX8_roomOf_60 : decode cX8_roomOf 60 = .ok (.aload_n 0, 1) := by decide +kernel
theorem dX8_roomOf_61 : decode cX8_roomOf 61 = .ok (.iload_n 1, 1) := by decide +kernel
theorem dX8_roomOf_62 : decode cX8_roomOf 62 = .ok (.invokevirtual 62, 3) := by decide +kernel
theorem dX8_roomOf_65 : decode cX8_roomOf 65 = .ok (.ireturn, 1) := by decide +kernel
theorem dX8_roomOf_66 : decode cX8_roomOf 66 = .ok (.aload_n 0, 1) := by decide +kernel
theorem dX8_roomOf_67 : decode cX8_roomOf 67 = .ok (.getfield 7, 3) := by decide +kernel
theorem dX8_roomOf_70 : decode cX8_roomOf 70 = .ok (.iload_n 1, 1) := by decide +kernel
theorem dX8_roomOf_71 : decode cX8_roomOf 71 = .ok (.iconst 2, 1) := by decide +kernel
theorem dX8_roomOf_72 : decode cX8_roomOf 72 = .ok (.invokestatic 51, 3) := by decide +kernel
theorem dX8_roomOf_75 : decode cX8_roomOf 75 = .ok (.invokestatic 79, 3) := by decide +kernel
theorem dX8_roomOf_78 : decode cX8_roomOf 78 = .ok (.ireturn, 1) := by decide +kernel
theorem dX8_roomOf_79 : decode cX8_roomOf 79 = .ok (.aload_n 0, 1) := by decide +kernel
theorem dX8_roomOf_80 : decode cX8_roomOf 80 = .ok (.getfield 7, 3) := by decide +kernel
theorem dX8_roomOf_83 : decode cX8_roomOf 83 = .ok (.iload_n 1, 1) := by decide +kernel
theorem dX8_roomOf_84 : decode cX8_roomOf 84 = .ok (.iload_n 2, 1) := by decide +kernel
theorem dX8_roomOf_85 : decode cX8_roomOf 85 = .ok (.iconst 2, 1) := by decide +kernel
theorem dX8_roomOf_86 : decode cX8_roomOf 86 = .ok (.isub, 1) := by decide +kernel
theorem dX8_roomOf_87 : decode cX8_roomOf 87 = .ok (.invokestatic 51, 3) := by decide +kernel
theorem dX8_roomOf_90 : decode cX8_roomOf 90 = .ok (.ireturn, 1) := by decide +kernel
theorem dX8_roomOf_91 : decode cX8_roomOf 91 = .ok (.aload_n 0, 1) := by decide +kernel
theorem dX8_roomOf_92 : decode cX8_roomOf 92 = .ok (.iload_n 1, 1) := by decide +kernel
theorem dX8_roomOf_93 : decode cX8_roomOf 93 = .ok (.invokevirtual 82, 3) := by decide +kernel
theorem dX8_roomOf_96 : decode cX8_roomOf 96 = .ok (.ireturn, 1) := by decide +kernel
theorem dX8_roomOf_97 : decode cX8_roomOf 97 = .ok (.aload_n 0, 1) := by decide +kernel
theorem dX8_roomOf_98 : decode cX8_roomOf 98 = .ok (.getfield 7, 3) := by decide +kernel
theorem dX8_roomOf_101 : decode cX8_roomOf 101 = .ok (.iload_n 1, 1) := by decide +kernel
theorem dX8_roomOf_102 : decode cX8_roomOf 102 = .ok (.invokestatic 85, 3) := by decide +kernel
theorem dX8_roomOf_105 : decode cX8_roomOf 105 = .ok (.ireturn, 1) := by decide +kernel
theorem dX8_roomOf_106 : decode cX8_roomOf 106 = .ok (.aload_n 0, 1) := by decide +kernel
theorem dX8_roomOf_107 : decode cX8_roomOf 107 = .ok (.getfield 7, 3) := by decide +kernel
theorem dX8_roomOf_110 : decode cX8_roomOf 110 = .ok (.iload_n 1, 1) := by decide +kernel
theorem dX8_roomOf_111 : decode cX8_roomOf 111 = .ok (.iload_n 2, 1) := by decide +kernel
theorem dX8_roomOf_112 : decode cX8_roomOf 112 = .ok (.invokestatic 51, 3) := by decide +kernel
theorem dX8_roomOf_115 : decode cX8_roomOf 115 = .ok (.ireturn, 1) := by decide +kernel
theorem dX8_onWay_0 : decode cX8_onWay 0 = .ok (.iconst 0, 1) := by decide +kernel
theorem dX8_onWay_1 : decode cX8_onWay 1 = .ok (.istore_n 2, 1) := by decide +kernel
theorem dX8_onWay_2 : decode cX8_onWay 2 = .ok (.iconst 0, 1) := by decide +kernel
theorem dX8_onWay_3 : decode cX8_onWay 3 = .ok (.istore_n 3, 1) := by decide +kernel
theorem dX8_onWay_4 : decode cX8_onWay 4 = .ok (.iload_n 3, 1) := by decide +kernel
theorem dX8_onWay_5 : decode cX8_onWay 5 = .ok (.bipush 12, 2) := by decide +kernel
theorem dX8_onWay_7 : decode cX8_onWay 7 = .ok (.if_icmp .ge 24, 3) := by decide +kernel
theorem dX8_onWay_10 : decode cX8_onWay 10 = .ok (.iload_n 2, 1) := by decide +kernel
theorem dX8_onWay_11 : decode cX8_onWay 11 = .ok (.aload_n 0, 1) := by decide +kernel
theorem dX8_onWay_12 : decode cX8_onWay 12 = .ok (.sipush 177, 3) := by decide +kernel
theorem dX8_onWay_15 : decode cX8_onWay 15 = .ok (.bipush 12, 2) := by decide +kernel
theorem dX8_onWay_17 : decode cX8_onWay 17 = .ok (.iload_n 1, 1) := by decide +kernel
theorem dX8_onWay_18 : decode cX8_onWay 18 = .ok (.imul, 1) := by decide +kernel
theorem dX8_onWay_19 : decode cX8_onWay 19 = .ok (.iadd, 1) := by decide +kernel
theorem dX8_onWay_20 : decode cX8_onWay 20 = .ok (.iload_n 3, 1) := by decide +kernel
theorem dX8_onWay_21 : decode cX8_onWay 21 = .ok (.iadd, 1) := by decide +kernel
theorem dX8_onWay_22 : decode cX8_onWay 22 = .ok (.iaload, 1) := by decide +kernel
theorem dX8_onWay_23 : decode cX8_onWay 23 = .ok (.iadd, 1) := by decide +kernel
theorem dX8_onWay_24 : decode cX8_onWay 24 = .ok (.istore_n 2, 1) := by decide +kernel
theorem dX8_onWay_25 : decode cX8_onWay 25 = .ok (.iinc 3 1, 3) := by decide +kernel
theorem dX8_onWay_28 : decode cX8_onWay 28 = .ok (.goto (-24), 3) := by decide +kernel
theorem dX8_onWay_31 : decode cX8_onWay 31 = .ok (.iload_n 2, 1) := by decide +kernel
theorem dX8_onWay_32 : decode cX8_onWay 32 = .ok (.ireturn, 1) := by decide +kernel
set_option maxRecDepth 20000 in
theorem ggX8_through_X8_ofDoor : GoodIn wsX8_through wsX8_ofDoor := goodIn_r _ [5] (by decide +kernel) (by decide +kernel)
set_option maxRecDepth 20000 in
theorem gX8_through_X8_ofDoor : GoodIn wsX8_through (va_wsS RX8 43 yX8_ofDoor wsX8_ofDoor) := goodIn_app (goodIn_of _ (by decide +kernel)) ggX8_through_X8_ofDoor
set_option maxRecDepth 20000 in
theorem ggX8_through_X8_inRoom : GoodIn wsX8_through wsX8_inRoom := goodIn_r _ [8] (by decide +kernel) (by decide +kernel)
set_option maxRecDepth 20000 in
theorem gX8_through_X8_inRoom : GoodIn wsX8_through (va_wsS RX8 51 yX8_inRoom wsX8_inRoom) := goodIn_app (goodIn_of _ (by decide +kernel)) ggX8_through_X8_inRoom
theorem dX8_through_0 : decode cX8_through 0 = .ok (.aload_n 0, 1) := by decide +kernel
theorem dX8_through_1 : decode cX8_through 1 = .ok (.iload_n 1, 1) := by decide +kernel
theorem dX8_through_2 : decode cX8_through 2 = .ok (.iload_n 2, 1) := by decide +kernel
theorem dX8_through_3 : decode cX8_through 3 = .ok (.invokestatic 43, 3) := by decide +kernel
theorem dX8_through_6 : decode cX8_through 6 = .ok (.istore_n 3, 1) := by decide +kernel
theorem dX8_through_7 : decode cX8_through 7 = .ok (.iload_n 3, 1) := by decide +kernel
theorem dX8_through_8 : decode cX8_through 8 = .ok (.bipush 8, 2) := by decide +kernel
theorem dX8_through_10 : decode cX8_through 10 = .ok (.if_icmp .ne 5, 3) := by decide +kernel
theorem dX8_through_13 : decode cX8_through 13 = .ok (.iconst 0, 1) := by decide +kernel
theorem dX8_through_14 : decode cX8_through 14 = .ok (.ireturn, 1) := by decide +kernel
theorem dX8_through_15 : decode cX8_through 15 = .ok (.aload_n 0, 1) := by decide +kernel
theorem dX8_through_16 : decode cX8_through 16 = .ok (.iload_n 3, 1) := by decide +kernel
theorem dX8_through_17 : decode cX8_through 17 = .ok (.iconst 2, 1) := by decide +kernel
theorem dX8_through_18 : decode cX8_through 18 = .ok (.invokestatic 51, 3) := by decide +kernel
theorem dX8_through_21 : decode cX8_through 21 = .ok (.i2l, 1) := by decide +kernel
theorem dX8_through_22 : decode cX8_through 22 = .ok (.aload_n 0, 1) := by decide +kernel
theorem dX8_through_23 : decode cX8_through 23 = .ok (.iload_n 1, 1) := by decide +kernel
theorem dX8_through_24 : decode cX8_through 24 = .ok (.iconst 2, 1) := by decide +kernel
theorem dX8_through_25 : decode cX8_through 25 = .ok (.invokestatic 43, 3) := by decide +kernel
theorem dX8_through_28 : decode cX8_through 28 = .ok (.i2l, 1) := by decide +kernel
theorem dX8_through_29 : decode cX8_through 29 = .ok (.lmul, 1) := by decide +kernel
theorem dX8_through_30 : decode cX8_through 30 = .ok (.aload_n 0, 1) := by decide +kernel
theorem dX8_through_31 : decode cX8_through 31 = .ok (.iload_n 1, 1) := by decide +kernel
theorem dX8_through_32 : decode cX8_through 32 = .ok (.iconst 5, 1) := by decide +kernel
theorem dX8_through_33 : decode cX8_through 33 = .ok (.invokestatic 43, 3) := by decide +kernel
theorem dX8_through_36 : decode cX8_through 36 = .ok (.i2l, 1) := by decide +kernel
theorem dX8_through_37 : decode cX8_through 37 = .ok (.lmul, 1) := by decide +kernel
theorem dX8_through_38 : decode cX8_through 38 = .ok (.lstore 4, 2) := by decide +kernel
theorem dX8_through_40 : decode cX8_through 40 = .ok (.lload 4, 2) := by decide +kernel
theorem dX8_through_42 : decode cX8_through 42 = .ok (.ldc2_w 89, 3) := by decide +kernel
theorem dX8_through_45 : decode cX8_through 45 = .ok (.aload_n 0, 1) := by decide +kernel
theorem dX8_through_46 : decode cX8_through 46 = .ok (.iload_n 3, 1) := by decide +kernel
theorem dX8_through_47 : decode cX8_through 47 = .ok (.iconst 0, 1) := by decide +kernel
theorem dX8_through_48 : decode cX8_through 48 = .ok (.invokestatic 51, 3) := by decide +kernel
theorem dX8_through_51 : decode cX8_through 51 = .ok (.i2l, 1) := by decide +kernel
theorem dX8_through_52 : decode cX8_through 52 = .ok (.lmul, 1) := by decide +kernel
theorem dX8_through_53 : decode cX8_through 53 = .ok (.ldiv, 1) := by decide +kernel
theorem dX8_through_54 : decode cX8_through 54 = .ok (.l2i, 1) := by decide +kernel
theorem dX8_through_55 : decode cX8_through 55 = .ok (.ireturn, 1) := by decide +kernel
set_option maxRecDepth 20000 in
theorem ggX8_doorOf_X8_isDoor : GoodIn wsX8_doorOf wsX8_isDoor := goodIn_r _ [6, 1, 23, 24, 25, 26, 27, 28, 29, 30, 31, 32, 33, 34, 35] (by decide +kernel) (by decide +kernel)
set_option maxRecDepth 20000 in
theorem gX8_doorOf_X8_isDoor : GoodIn wsX8_doorOf (wsV RX8 65 RX8 yX8_isDoor wsX8_isDoor) := goodIn_app (goodIn_of _ (by decide +kernel)) ggX8_doorOf_X8_isDoor
set_option maxRecDepth 20000 in
theorem ggX8_doorOf_X8_in : GoodIn wsX8_doorOf wsX8_in := goodIn_r _ [9] (by decide +kernel) (by decide +kernel)
set_option maxRecDepth 20000 in
theorem gX8_doorOf_X8_in : GoodIn wsX8_doorOf (va_wsS RX8 36 yX8_in wsX8_in) := goodIn_app (goodIn_of _ (by decide +kernel)) ggX8_doorOf_X8_in
set_option maxRecDepth 20000 in
theorem ggX8_doorOf_X8_ofDoor : GoodIn wsX8_doorOf wsX8_ofDoor := goodIn_r _ [12] (by decide +kernel) (by decide +kernel)
set_option maxRecDepth 20000 in
theorem gX8_doorOf_X8_ofDoor : GoodIn wsX8_doorOf (va_wsS RX8 43 yX8_ofDoor wsX8_ofDoor) := goodIn_app (goodIn_of _ (by decide +kernel)) ggX8_doorOf_X8_ofDoor
set_option maxRecDepth 20000 in
theorem ggX8_doorOf_X8_onWay : GoodIn wsX8_doorOf wsX8_onWay := goodIn_r _ [15] (by decide +kernel) (by decide +kernel)
set_option maxRecDepth 20000 in
theorem gX8_doorOf_X8_onWay : GoodIn wsX8_doorOf (va_wsS RX8 91 yX8_onWay wsX8_onWay) := goodIn_app (goodIn_of _ (by decide +kernel)) ggX8_doorOf_X8_onWay
set_option maxRecDepth 20000 in
theorem ggX8_doorOf_X8_through : GoodIn wsX8_doorOf wsX8_through := goodIn_r _ [18, 19, 10, 11, 5, 12, 20, 21, 22] (by decide +kernel) (by decide +kernel)
set_option maxRecDepth 20000 in
theorem gX8_doorOf_X8_through : GoodIn wsX8_doorOf (va_wsS RX8 94 yX8_through wsX8_through) := goodIn_app (goodIn_of _ (by decide +kernel)) ggX8_doorOf_X8_through
theorem dX8_doorOf_0 : decode cX8_doorOf 0 = .ok (.aload_n 0, 1) := by decide +kernel
theorem dX8_doorOf_1 : decode cX8_doorOf 1 = .ok (.iload_n 1, 1) := by decide +kernel
theorem dX8_doorOf_2 : decode cX8_doorOf 2 = .ok (.invokevirtual 65, 3) := by decide +kernel
theorem dX8_doorOf_5 : decode cX8_doorOf 5 = .ok (.ifCond .eq 13, 3) := by decide +kernel
theorem dX8_doorOf_8 : decode cX8_doorOf 8 = .ok (.iload_n 2, 1) := by decide +kernel
theorem dX8_doorOf_9 : decode cX8_doorOf 9 = .ok (.iconst 0, 1) := by decide +kernel
theorem dX8_doorOf_10 : decode cX8_doorOf 10 = .ok (.bipush 12, 2) := by decide +kernel
theorem dX8_doorOf_12 : decode cX8_doorOf 12 = .ok (.invokestatic 36, 3) := by decide +kernel
theorem dX8_doorOf_15 : decode cX8_doorOf 15 = .ok (.ifCond .ne 5, 3) := by decide +kernel
theorem dX8_doorOf_18 : decode cX8_doorOf 18 = .ok (.iconst (-1), 1) := by decide +kernel
theorem dX8_doorOf_19 : decode cX8_doorOf 19 = .ok (.ireturn, 1) := by decide +kernel
theorem dX8_doorOf_20 : decode cX8_doorOf 20 = .ok (.iload_n 2, 1) := by decide +kernel
theorem dX8_doorOf_21 : decode cX8_doorOf 21 = .ok (.bipush 8, 2) := by decide +kernel
theorem dX8_doorOf_23 : decode cX8_doorOf 23 = .ok (.if_icmp .ge 15, 3) := by decide +kernel
theorem dX8_doorOf_26 : decode cX8_doorOf 26 = .ok (.aload_n 0, 1) := by decide +kernel
theorem dX8_doorOf_27 : decode cX8_doorOf 27 = .ok (.getfield 7, 3) := by decide +kernel
theorem dX8_doorOf_30 : decode cX8_doorOf 30 = .ok (.iload_n 1, 1) := by decide +kernel
theorem dX8_doorOf_31 : decode cX8_doorOf 31 = .ok (.iload_n 2, 1) := by decide +kernel
theorem dX8_doorOf_32 : decode cX8_doorOf 32 = .ok (.invokestatic 43, 3) := by decide +kernel
theorem dX8_doorOf_35 : decode cX8_doorOf 35 = .ok (.goto 56, 3) := by decide +kernel
theorem dX8_doorOf_38 : decode cX8_doorOf 38 = .ok (.iload_n 2, 1) := by decide +kernel
theorem dX8_doorOf_39 : decode cX8_doorOf 39 = .ok (.bipush 8, 2) := by decide +kernel
theorem dX8_doorOf_41 : decode cX8_doorOf 41 = .ok (.if_icmp .ne 14, 3) := by decide +kernel
theorem dX8_doorOf_44 : decode cX8_doorOf 44 = .ok (.aload_n 0, 1) := by decide +kernel
theorem dX8_doorOf_45 : decode cX8_doorOf 45 = .ok (.getfield 7, 3) := by decide +kernel
theorem dX8_doorOf_48 : decode cX8_doorOf 48 = .ok (.iload_n 1, 1) := by decide +kernel
theorem dX8_doorOf_49 : decode cX8_doorOf 49 = .ok (.invokestatic 91, 3) := by decide +kernel
theorem dX8_doorOf_52 : decode cX8_doorOf 52 = .ok (.goto 39, 3) := by decide +kernel
theorem dX8_doorOf_55 : decode cX8_doorOf 55 = .ok (.iload_n 2, 1) := by decide +kernel
theorem dX8_doorOf_56 : decode cX8_doorOf 56 = .ok (.bipush 11, 2) := by decide +kernel
theorem dX8_doorOf_58 : decode cX8_doorOf 58 = .ok (.if_icmp .ge 21, 3) := by decide +kernel
theorem dX8_doorOf_61 : decode cX8_doorOf 61 = .ok (.aload_n 0, 1) := by decide +kernel
theorem dX8_doorOf_62 : decode cX8_doorOf 62 = .ok (.getfield 7, 3) := by decide +kernel
theorem dX8_doorOf_65 : decode cX8_doorOf 65 = .ok (.iload_n 1, 1) := by decide +kernel
theorem dX8_doorOf_66 : decode cX8_doorOf 66 = .ok (.bipush 8, 2) := by decide +kernel
theorem dX8_doorOf_68 : decode cX8_doorOf 68 = .ok (.iload_n 2, 1) := by decide +kernel
theorem dX8_doorOf_69 : decode cX8_doorOf 69 = .ok (.iadd, 1) := by decide +kernel
theorem dX8_doorOf_70 : decode cX8_doorOf 70 = .ok (.bipush 9, 2) := by decide +kernel
theorem dX8_doorOf_72 : decode cX8_doorOf 72 = .ok (.isub, 1) := by decide +kernel
theorem dX8_doorOf_73 : decode cX8_doorOf 73 = .ok (.invokestatic 43, 3) := by decide +kernel
theorem dX8_doorOf_76 : decode cX8_doorOf 76 = .ok (.goto 15, 3) := by decide +kernel
theorem dX8_doorOf_79 : decode cX8_doorOf 79 = .ok (.aload_n 0, 1) := by decide +kernel
theorem dX8_doorOf_80 : decode cX8_doorOf 80 = .ok (.getfield 7, 3) := by decide +kernel
theorem dX8_doorOf_83 : decode cX8_doorOf 83 = .ok (.iload_n 1, 1) := by decide +kernel
theorem dX8_doorOf_84 : decode cX8_doorOf 84 = .ok (.iload_n 2, 1) := by decide +kernel
theorem dX8_doorOf_85 : decode cX8_doorOf 85 = .ok (.bipush 11, 2) := by decide +kernel
theorem dX8_doorOf_87 : decode cX8_doorOf 87 = .ok (.isub, 1) := by decide +kernel
theorem dX8_doorOf_88 : decode cX8_doorOf 88 = .ok (.invokestatic 94, 3) := by decide +kernel
theorem dX8_doorOf_91 : decode cX8_doorOf 91 = .ok (.ireturn, 1) := by decide +kernel
set_option maxRecDepth 20000 in
theorem ggX8_sumOf_X8_inRoom : GoodIn wsX8_sumOf wsX8_inRoom := goodIn_r _ [4] (by decide +kernel) (by decide +kernel)
set_option maxRecDepth 20000 in
theorem gX8_sumOf_X8_inRoom : GoodIn wsX8_sumOf (va_wsS RX8 51 yX8_inRoom wsX8_inRoom) := goodIn_app (goodIn_of _ (by decide +kernel)) ggX8_sumOf_X8_inRoom
theorem dX8_sumOf_0 : decode cX8_sumOf 0 = .ok (.iconst 0, 1) := by decide +kernel
theorem dX8_sumOf_1 : decode cX8_sumOf 1 = .ok (.istore_n 2, 1) := by decide +kernel
theorem dX8_sumOf_2 : decode cX8_sumOf 2 = .ok (.iconst 0, 1) := by decide +kernel
theorem dX8_sumOf_3 : decode cX8_sumOf 3 = .ok (.istore_n 3, 1) := by decide +kernel
theorem dX8_sumOf_4 : decode cX8_sumOf 4 = .ok (.iload_n 3, 1) := by decide +kernel
theorem dX8_sumOf_5 : decode cX8_sumOf 5 = .ok (.aload_n 0, 1) := by decide +kernel
theorem dX8_sumOf_6 : decode cX8_sumOf 6 = .ok (.iconst 0, 1) := by decide +kernel
theorem dX8_sumOf_7 : decode cX8_sumOf 7 = .ok (.iaload, 1) := by decide +kernel
theorem dX8_sumOf_8 : decode cX8_sumOf 8 = .ok (.if_icmp .ge 18, 3) := by decide +kernel
theorem dX8_sumOf_11 : decode cX8_sumOf 11 = .ok (.iload_n 2, 1) := by decide +kernel
theorem dX8_sumOf_12 : decode cX8_sumOf 12 = .ok (.aload_n 0, 1) := by decide +kernel
theorem dX8_sumOf_13 : decode cX8_sumOf 13 = .ok (.iload_n 3, 1) := by decide +kernel
theorem dX8_sumOf_14 : decode cX8_sumOf 14 = .ok (.iload_n 1, 1) := by decide +kernel
theorem dX8_sumOf_15 : decode cX8_sumOf 15 = .ok (.invokestatic 51, 3) := by decide +kernel
theorem dX8_sumOf_18 : decode cX8_sumOf 18 = .ok (.iadd, 1) := by decide +kernel
theorem dX8_sumOf_19 : decode cX8_sumOf 19 = .ok (.istore_n 2, 1) := by decide +kernel
theorem dX8_sumOf_20 : decode cX8_sumOf 20 = .ok (.iinc 3 1, 3) := by decide +kernel
theorem dX8_sumOf_23 : decode cX8_sumOf 23 = .ok (.goto (-19), 3) := by decide +kernel
theorem dX8_sumOf_26 : decode cX8_sumOf 26 = .ok (.iload_n 2, 1) := by decide +kernel
theorem dX8_sumOf_27 : decode cX8_sumOf 27 = .ok (.ireturn, 1) := by decide +kernel
set_option maxRecDepth 20000 in
theorem ggX8_allOnWay_X8_onWay : GoodIn wsX8_allOnWay wsX8_onWay := goodIn_r _ [4] (by decide +kernel) (by decide +kernel)
set_option maxRecDepth 20000 in
theorem gX8_allOnWay_X8_onWay : GoodIn wsX8_allOnWay (va_wsS RX8 91 yX8_onWay wsX8_onWay) := goodIn_app (goodIn_of _ (by decide +kernel)) ggX8_allOnWay_X8_onWay
theorem dX8_allOnWay_0 : decode cX8_allOnWay 0 = .ok (.iconst 0, 1) := by decide +kernel
theorem dX8_allOnWay_1 : decode cX8_allOnWay 1 = .ok (.istore_n 1, 1) := by decide +kernel
theorem dX8_allOnWay_2 : decode cX8_allOnWay 2 = .ok (.iconst 0, 1) := by decide +kernel
theorem dX8_allOnWay_3 : decode cX8_allOnWay 3 = .ok (.istore_n 2, 1) := by decide +kernel
theorem dX8_allOnWay_4 : decode cX8_allOnWay 4 = .ok (.iload_n 2, 1) := by decide +kernel
theorem dX8_allOnWay_5 : decode cX8_allOnWay 5 = .ok (.aload_n 0, 1) := by decide +kernel
theorem dX8_allOnWay_6 : decode cX8_allOnWay 6 = .ok (.iconst 1, 1) := by decide +kernel
theorem dX8_allOnWay_7 : decode cX8_allOnWay 7 = .ok (.iaload, 1) := by decide +kernel
theorem dX8_allOnWay_8 : decode cX8_allOnWay 8 = .ok (.if_icmp .ge 17, 3) := by decide +kernel
theorem dX8_allOnWay_11 : decode cX8_allOnWay 11 = .ok (.iload_n 1, 1) := by decide +kernel
theorem dX8_allOnWay_12 : decode cX8_allOnWay 12 = .ok (.aload_n 0, 1) := by decide +kernel
theorem dX8_allOnWay_13 : decode cX8_allOnWay 13 = .ok (.iload_n 2, 1) := by decide +kernel
theorem dX8_allOnWay_14 : decode cX8_allOnWay 14 = .ok (.invokestatic 91, 3) := by decide +kernel
theorem dX8_allOnWay_17 : decode cX8_allOnWay 17 = .ok (.iadd, 1) := by decide +kernel
theorem dX8_allOnWay_18 : decode cX8_allOnWay 18 = .ok (.istore_n 1, 1) := by decide +kernel
theorem dX8_allOnWay_19 : decode cX8_allOnWay 19 = .ok (.iinc 2 1, 3) := by decide +kernel
theorem dX8_allOnWay_22 : decode cX8_allOnWay 22 = .ok (.goto (-18), 3) := by decide +kernel
theorem dX8_allOnWay_25 : decode cX8_allOnWay 25 = .ok (.iload_n 1, 1) := by decide +kernel
theorem dX8_allOnWay_26 : decode cX8_allOnWay 26 = .ok (.ireturn, 1) := by decide +kernel
set_option maxRecDepth 20000 in
theorem ggX8_count_X8_sumOf : GoodIn wsX8_count wsX8_sumOf := goodIn_r _ [7, 8, 9, 6, 10] (by decide +kernel) (by decide +kernel)
set_option maxRecDepth 20000 in
theorem gX8_count_X8_sumOf : GoodIn wsX8_count (va_wsS RX8 97 yX8_sumOf wsX8_sumOf) := goodIn_app (goodIn_of _ (by decide +kernel)) ggX8_count_X8_sumOf
set_option maxRecDepth 20000 in
theorem ggX8_count_X8_allOnWay : GoodIn wsX8_count wsX8_allOnWay := goodIn_r _ [13, 14, 15, 6, 16] (by decide +kernel) (by decide +kernel)
set_option maxRecDepth 20000 in
theorem gX8_count_X8_allOnWay : GoodIn wsX8_count (va_wsS RX8 100 yX8_allOnWay wsX8_allOnWay) := goodIn_app (goodIn_of _ (by decide +kernel)) ggX8_count_X8_allOnWay
theorem dX8_count_0 : decode cX8_count 0 = .ok (.iload_n 1, 1) := by decide +kernel
theorem dX8_count_1 : decode cX8_count 1 = .ok (.tableswitch 190 0 21 #[103, 103, 103, 103, 110, 119, 127, 136, 143, 152, 159, 167, 172, 190, 190, 190, 190, 190, 190, 190, 177, 177], 103) := by decide +kernel
theorem dX8_count_104 : decode cX8_count 104 = .ok (.aload_n 0, 1) := by decide +kernel
theorem dX8_count_105 : decode cX8_count 105 = .ok (.getfield 7, 3) := by decide +kernel
theorem dX8_count_108 : decode cX8_count 108 = .ok (.iload_n 1, 1) := by decide +kernel
theorem dX8_count_109 : decode cX8_count 109 = .ok (.iaload, 1) := by decide +kernel
theorem dX8_count_110 : decode cX8_count 110 = .ok (.ireturn, 1) := by decide +kernel
