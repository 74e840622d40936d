/-! THE LAW: instructions and calls (of claim/NAMES.whole.lean.txt) -/
theorem dL_cell_0 : decode cL_cell 0 = .ok (.iload_n 1, 1) := by decide +kernel
theorem dL_cell_1 : decode cL_cell 1 = .ok (.aload_n 0, 1) := by decide +kernel
theorem dL_cell_2 : decode cL_cell 2 = .ok (.arraylength, 1) := by decide +kernel
theorem dL_cell_3 : decode cL_cell 3 = .ok (.if_icmp .ge 9, 3) := by decide +kernel
theorem dL_cell_6 : decode cL_cell 6 = .ok (.aload_n 0, 1) := by decide +kernel
theorem dL_cell_7 : decode cL_cell 7 = .ok (.iload_n 1, 1) := by decide +kernel
theorem dL_cell_8 : decode cL_cell 8 = .ok (.iaload, 1) := by decide +kernel
theorem dL_cell_9 : decode cL_cell 9 = .ok (.goto 9, 3) := by decide +kernel
theorem dL_cell_12 : decode cL_cell 12 = .ok (.ldc 7, 2) := by decide +kernel
theorem dL_cell_14 : decode cL_cell 14 = .ok (.iload_n 1, 1) := by decide +kernel
theorem dL_cell_15 : decode cL_cell 15 = .ok (.iconst 3, 1) := by decide +kernel
theorem dL_cell_16 : decode cL_cell 16 = .ok (.iadd, 1) := by decide +kernel
theorem dL_cell_17 : decode cL_cell 17 = .ok (.imul, 1) := by decide +kernel
theorem dL_cell_18 : decode cL_cell 18 = .ok (.ireturn, 1) := by decide +kernel
theorem dL_low_0 : decode cL_low 0 = .ok (.iload_n 0, 1) := by decide +kernel
theorem dL_low_1 : decode cL_low 1 = .ok (.ldc 8, 2) := by decide +kernel
theorem dL_low_3 : decode cL_low 3 = .ok (.iand, 1) := by decide +kernel
theorem dL_low_4 : decode cL_low 4 = .ok (.iload_n 1, 1) := by decide +kernel
theorem dL_low_5 : decode cL_low 5 = .ok (.irem, 1) := by decide +kernel
theorem dL_low_6 : decode cL_low 6 = .ok (.ireturn, 1) := by decide +kernel
theorem dL_heard_0 : decode cL_heard 0 = .ok (.iconst 0, 1) := by decide +kernel
theorem dL_heard_1 : decode cL_heard 1 = .ok (.istore_n 3, 1) := by decide +kernel
theorem dL_heard_2 : decode cL_heard 2 = .ok (.iconst 0, 1) := by decide +kernel
theorem dL_heard_3 : decode cL_heard 3 = .ok (.istore 4, 2) := by decide +kernel
theorem dL_heard_5 : decode cL_heard 5 = .ok (.iload 4, 2) := by decide +kernel
theorem dL_heard_7 : decode cL_heard 7 = .ok (.aload_n 0, 1) := by decide +kernel
theorem dL_heard_8 : decode cL_heard 8 = .ok (.iconst 2, 1) := by decide +kernel
theorem dL_heard_9 : decode cL_heard 9 = .ok (.iaload, 1) := by decide +kernel
theorem dL_heard_10 : decode cL_heard 10 = .ok (.if_icmp .ge 73, 3) := by decide +kernel
theorem dL_heard_13 : decode cL_heard 13 = .ok (.iload_n 3, 1) := by decide +kernel
theorem dL_heard_14 : decode cL_heard 14 = .ok (.aload_n 1, 1) := by decide +kernel
theorem dL_heard_15 : decode cL_heard 15 = .ok (.iconst 5, 1) := by decide +kernel
theorem dL_heard_16 : decode cL_heard 16 = .ok (.iload 4, 2) := by decide +kernel
theorem dL_heard_18 : decode cL_heard 18 = .ok (.imul, 1) := by decide +kernel
theorem dL_heard_19 : decode cL_heard 19 = .ok (.iconst 1, 1) := by decide +kernel
theorem dL_heard_20 : decode cL_heard 20 = .ok (.iadd, 1) := by decide +kernel
theorem dL_heard_21 : decode cL_heard 21 = .ok (.iaload, 1) := by decide +kernel
theorem dL_heard_22 : decode cL_heard 22 = .ok (.ifCond .ne 52, 3) := by decide +kernel
theorem dL_heard_25 : decode cL_heard 25 = .ok (.aload_n 1, 1) := by decide +kernel
theorem dL_heard_26 : decode cL_heard 26 = .ok (.iconst 5, 1) := by decide +kernel
theorem dL_heard_27 : decode cL_heard 27 = .ok (.iload 4, 2) := by decide +kernel
theorem dL_heard_29 : decode cL_heard 29 = .ok (.imul, 1) := by decide +kernel
theorem dL_heard_30 : decode cL_heard 30 = .ok (.iconst 2, 1) := by decide +kernel
theorem dL_heard_31 : decode cL_heard 31 = .ok (.iadd, 1) := by decide +kernel
theorem dL_heard_32 : decode cL_heard 32 = .ok (.iaload, 1) := by decide +kernel
theorem dL_heard_33 : decode cL_heard 33 = .ok (.iload_n 2, 1) := by decide +kernel
theorem dL_heard_34 : decode cL_heard 34 = .ok (.if_icmp .ne 40, 3) := by decide +kernel
theorem dL_heard_37 : decode cL_heard 37 = .ok (.aload_n 1, 1) := by decide +kernel
theorem dL_heard_38 : decode cL_heard 38 = .ok (.iconst 5, 1) := by decide +kernel
theorem dL_heard_39 : decode cL_heard 39 = .ok (.iload 4, 2) := by decide +kernel
theorem dL_heard_41 : decode cL_heard 41 = .ok (.imul, 1) := by decide +kernel
theorem dL_heard_42 : decode cL_heard 42 = .ok (.iaload, 1) := by decide +kernel
theorem dL_heard_43 : decode cL_heard 43 = .ok (.aload_n 0, 1) := by decide +kernel
theorem dL_heard_44 : decode cL_heard 44 = .ok (.iconst 3, 1) := by decide +kernel
theorem dL_heard_45 : decode cL_heard 45 = .ok (.iaload, 1) := by decide +kernel
theorem dL_heard_46 : decode cL_heard 46 = .ok (.if_icmp .gt 28, 3) := by decide +kernel
theorem dL_heard_49 : decode cL_heard 49 = .ok (.aload_n 0, 1) := by decide +kernel
theorem dL_heard_50 : decode cL_heard 50 = .ok (.iconst 3, 1) := by decide +kernel
theorem dL_heard_51 : decode cL_heard 51 = .ok (.iaload, 1) := by decide +kernel
theorem dL_heard_52 : decode cL_heard 52 = .ok (.aload_n 1, 1) := by decide +kernel
theorem dL_heard_53 : decode cL_heard 53 = .ok (.iconst 5, 1) := by decide +kernel
theorem dL_heard_54 : decode cL_heard 54 = .ok (.iload 4, 2) := by decide +kernel
theorem dL_heard_56 : decode cL_heard 56 = .ok (.imul, 1) := by decide +kernel
theorem dL_heard_57 : decode cL_heard 57 = .ok (.iaload, 1) := by decide +kernel
theorem dL_heard_58 : decode cL_heard 58 = .ok (.aload_n 1, 1) := by decide +kernel
theorem dL_heard_59 : decode cL_heard 59 = .ok (.iconst 5, 1) := by decide +kernel
theorem dL_heard_60 : decode cL_heard 60 = .ok (.iload 4, 2) := by decide +kernel
theorem dL_heard_62 : decode cL_heard 62 = .ok (.imul, 1) := by decide +kernel
theorem dL_heard_63 : decode cL_heard 63 = .ok (.iconst 3, 1) := by decide +kernel
theorem dL_heard_64 : decode cL_heard 64 = .ok (.iadd, 1) := by decide +kernel
theorem dL_heard_65 : decode cL_heard 65 = .ok (.iaload, 1) := by decide +kernel
theorem dL_heard_66 : decode cL_heard 66 = .ok (.iadd, 1) := by decide +kernel
theorem dL_heard_67 : decode cL_heard 67 = .ok (.if_icmp .ge 7, 3) := by decide +kernel
theorem dL_heard_70 : decode cL_heard 70 = .ok (.iconst 1, 1) := by decide +kernel
theorem dL_heard_71 : decode cL_heard 71 = .ok (.goto 4, 3) := by decide +kernel
theorem dL_heard_74 : decode cL_heard 74 = .ok (.iconst 0, 1) := by decide +kernel
theorem dL_heard_75 : decode cL_heard 75 = .ok (.iadd, 1) := by decide +kernel
theorem dL_heard_76 : decode cL_heard 76 = .ok (.istore_n 3, 1) := by decide +kernel
theorem dL_heard_77 : decode cL_heard 77 = .ok (.iinc 4 1, 3) := by decide +kernel
theorem dL_heard_80 : decode cL_heard 80 = .ok (.goto (-75), 3) := by decide +kernel
theorem dL_heard_83 : decode cL_heard 83 = .ok (.iload_n 3, 1) := by decide +kernel
theorem dL_heard_84 : decode cL_heard 84 = .ok (.ireturn, 1) := by decide +kernel
theorem dL_flow_0 : decode cL_flow 0 = .ok (.aload_n 1, 1) := by decide +kernel
theorem dL_flow_1 : decode cL_flow 1 = .ok (.bipush 10, 2) := by decide +kernel
theorem dL_flow_3 : decode cL_flow 3 = .ok (.iload_n 2, 1) := by decide +kernel
theorem dL_flow_4 : decode cL_flow 4 = .ok (.imul, 1) := by decide +kernel
theorem dL_flow_5 : decode cL_flow 5 = .ok (.iload_n 3, 1) := by decide +kernel
theorem dL_flow_6 : decode cL_flow 6 = .ok (.iadd, 1) := by decide +kernel
theorem dL_flow_7 : decode cL_flow 7 = .ok (.iaload, 1) := by decide +kernel
theorem dL_flow_8 : decode cL_flow 8 = .ok (.istore 4, 2) := by decide +kernel
theorem dL_flow_10 : decode cL_flow 10 = .ok (.iload 4, 2) := by decide +kernel
theorem dL_flow_12 : decode cL_flow 12 = .ok (.bipush 8, 2) := by decide +kernel
theorem dL_flow_14 : decode cL_flow 14 = .ok (.if_icmp .ne 7, 3) := by decide +kernel
theorem dL_flow_17 : decode cL_flow 17 = .ok (.iconst 0, 1) := by decide +kernel
theorem dL_flow_18 : decode cL_flow 18 = .ok (.goto 45, 3) := by decide +kernel
theorem dL_flow_21 : decode cL_flow 21 = .ok (.aload_n 0, 1) := by decide +kernel
theorem dL_flow_22 : decode cL_flow 22 = .ok (.bipush 6, 2) := by decide +kernel
theorem dL_flow_24 : decode cL_flow 24 = .ok (.iload 4, 2) := by decide +kernel
theorem dL_flow_26 : decode cL_flow 26 = .ok (.imul, 1) := by decide +kernel
theorem dL_flow_27 : decode cL_flow 27 = .ok (.iconst 2, 1) := by decide +kernel
theorem dL_flow_28 : decode cL_flow 28 = .ok (.iadd, 1) := by decide +kernel
theorem dL_flow_29 : decode cL_flow 29 = .ok (.iaload, 1) := by decide +kernel
theorem dL_flow_30 : decode cL_flow 30 = .ok (.i2l, 1) := by decide +kernel
theorem dL_flow_31 : decode cL_flow 31 = .ok (.aload_n 1, 1) := by decide +kernel
theorem dL_flow_32 : decode cL_flow 32 = .ok (.bipush 10, 2) := by decide +kernel
theorem dL_flow_34 : decode cL_flow 34 = .ok (.iload_n 2, 1) := by decide +kernel
theorem dL_flow_35 : decode cL_flow 35 = .ok (.imul, 1) := by decide +kernel
theorem dL_flow_36 : decode cL_flow 36 = .ok (.iconst 2, 1) := by decide +kernel
theorem dL_flow_37 : decode cL_flow 37 = .ok (.iadd, 1) := by decide +kernel
theorem dL_flow_38 : decode cL_flow 38 = .ok (.iaload, 1) := by decide +kernel
theorem dL_flow_39 : decode cL_flow 39 = .ok (.aload_n 1, 1) := by decide +kernel
theorem dL_flow_40 : decode cL_flow 40 = .ok (.bipush 10, 2) := by decide +kernel
theorem dL_flow_42 : decode cL_flow 42 = .ok (.iload_n 2, 1) := by decide +kernel
theorem dL_flow_43 : decode cL_flow 43 = .ok (.imul, 1) := by decide +kernel
theorem dL_flow_44 : decode cL_flow 44 = .ok (.iconst 5, 1) := by decide +kernel
theorem dL_flow_45 : decode cL_flow 45 = .ok (.iadd, 1) := by decide +kernel
theorem dL_flow_46 : decode cL_flow 46 = .ok (.iaload, 1) := by decide +kernel
theorem dL_flow_47 : decode cL_flow 47 = .ok (.imul, 1) := by decide +kernel
theorem dL_flow_48 : decode cL_flow 48 = .ok (.i2l, 1) := by decide +kernel
theorem dL_flow_49 : decode cL_flow 49 = .ok (.lmul, 1) := by decide +kernel
theorem dL_flow_50 : decode cL_flow 50 = .ok (.bipush 10, 2) := by decide +kernel
theorem dL_flow_52 : decode cL_flow 52 = .ok (.aload_n 0, 1) := by decide +kernel
theorem dL_flow_53 : decode cL_flow 53 = .ok (.bipush 6, 2) := by decide +kernel
theorem dL_flow_55 : decode cL_flow 55 = .ok (.iload 4, 2) := by decide +kernel
theorem dL_flow_57 : decode cL_flow 57 = .ok (.imul, 1) := by decide +kernel
theorem dL_flow_58 : decode cL_flow 58 = .ok (.iaload, 1) := by decide +kernel
theorem dL_flow_59 : decode cL_flow 59 = .ok (.imul, 1) := by decide +kernel
theorem dL_flow_60 : decode cL_flow 60 = .ok (.i2l, 1) := by decide +kernel
theorem dL_flow_61 : decode cL_flow 61 = .ok (.ldiv, 1) := by decide +kernel
theorem dL_flow_62 : decode cL_flow 62 = .ok (.l2i, 1) := by decide +kernel
theorem dL_flow_63 : decode cL_flow 63 = .ok (.ireturn, 1) := by decide +kernel
theorem dL_ends_0 : decode cL_ends 0 = .ok (.iconst 5, 1) := by decide +kernel
theorem dL_ends_1 : decode cL_ends 1 = .ok (.iload_n 2, 1) := by decide +kernel
theorem dL_ends_2 : decode cL_ends 2 = .ok (.imul, 1) := by decide +kernel
theorem dL_ends_3 : decode cL_ends 3 = .ok (.istore_n 3, 1) := by decide +kernel
theorem dL_ends_4 : decode cL_ends 4 = .ok (.iload_n 3, 1) := by decide +kernel
theorem dL_ends_5 : decode cL_ends 5 = .ok (.iconst 5, 1) := by decide +kernel
theorem dL_ends_6 : decode cL_ends 6 = .ok (.aload_n 0, 1) := by decide +kernel
theorem dL_ends_7 : decode cL_ends 7 = .ok (.iconst 2, 1) := by decide +kernel
theorem dL_ends_8 : decode cL_ends 8 = .ok (.iaload, 1) := by decide +kernel
theorem dL_ends_9 : decode cL_ends 9 = .ok (.imul, 1) := by decide +kernel
theorem dL_ends_10 : decode cL_ends 10 = .ok (.iconst 5, 1) := by decide +kernel
theorem dL_ends_11 : decode cL_ends 11 = .ok (.isub, 1) := by decide +kernel
theorem dL_ends_12 : decode cL_ends 12 = .ok (.if_icmp .ge 17, 3) := by decide +kernel
theorem dL_ends_15 : decode cL_ends 15 = .ok (.aload_n 1, 1) := by decide +kernel
theorem dL_ends_16 : decode cL_ends 16 = .ok (.iload_n 3, 1) := by decide +kernel
theorem dL_ends_17 : decode cL_ends 17 = .ok (.aload_n 1, 1) := by decide +kernel
theorem dL_ends_18 : decode cL_ends 18 = .ok (.iload_n 3, 1) := by decide +kernel
theorem dL_ends_19 : decode cL_ends 19 = .ok (.iconst 5, 1) := by decide +kernel
theorem dL_ends_20 : decode cL_ends 20 = .ok (.iadd, 1) := by decide +kernel
