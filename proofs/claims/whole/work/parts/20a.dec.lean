theorem d_M_between_0 : decode b_M_between 0 = .ok (.lload_n 0, 1) := by decide +kernel
theorem d_M_between_1 : decode b_M_between 1 = .ok (.lload_n 2, 1) := by decide +kernel
theorem d_M_between_2 : decode b_M_between 2 = .ok (.lcmp, 1) := by decide +kernel
theorem d_M_between_3 : decode b_M_between 3 = .ok (.ifCond .lt 14, 3) := by decide +kernel
theorem d_M_between_6 : decode b_M_between 6 = .ok (.lload_n 0, 1) := by decide +kernel
theorem d_M_between_7 : decode b_M_between 7 = .ok (.lload 4, 2) := by decide +kernel
theorem d_M_between_9 : decode b_M_between 9 = .ok (.lcmp, 1) := by decide +kernel
theorem d_M_between_10 : decode b_M_between 10 = .ok (.ifCond .gt 7, 3) := by decide +kernel
theorem d_M_between_13 : decode b_M_between 13 = .ok (.iconst 1, 1) := by decide +kernel
theorem d_M_between_14 : decode b_M_between 14 = .ok (.goto 4, 3) := by decide +kernel
theorem d_M_between_17 : decode b_M_between 17 = .ok (.iconst 0, 1) := by decide +kernel
theorem d_M_between_18 : decode b_M_between 18 = .ok (.ireturn, 1) := by decide +kernel
theorem d_M_size_0 : decode b_M_size 0 = .ok (.lload_n 0, 1) := by decide +kernel
theorem d_M_size_1 : decode b_M_size 1 = .ok (.lconst 0, 1) := by decide +kernel
theorem d_M_size_2 : decode b_M_size 2 = .ok (.lcmp, 1) := by decide +kernel
theorem d_M_size_3 : decode b_M_size 3 = .ok (.ifCond .ge 8, 3) := by decide +kernel
theorem d_M_size_6 : decode b_M_size 6 = .ok (.lload_n 0, 1) := by decide +kernel
theorem d_M_size_7 : decode b_M_size 7 = .ok (.lneg, 1) := by decide +kernel
theorem d_M_size_8 : decode b_M_size 8 = .ok (.goto 4, 3) := by decide +kernel
theorem d_M_size_11 : decode b_M_size 11 = .ok (.lload_n 0, 1) := by decide +kernel
theorem d_M_size_12 : decode b_M_size 12 = .ok (.lreturn, 1) := by decide +kernel
theorem d_M_det_0 : decode b_M_det 0 = .ok (.aload_n 0, 1) := by decide +kernel
theorem d_M_det_1 : decode b_M_det 1 = .ok (.iload_n 1, 1) := by decide +kernel
theorem d_M_det_2 : decode b_M_det 2 = .ok (.laload, 1) := by decide +kernel
theorem d_M_det_3 : decode b_M_det 3 = .ok (.lstore_n 2, 1) := by decide +kernel
theorem d_M_det_4 : decode b_M_det 4 = .ok (.aload_n 0, 1) := by decide +kernel
theorem d_M_det_5 : decode b_M_det 5 = .ok (.iload_n 1, 1) := by decide +kernel
theorem d_M_det_6 : decode b_M_det 6 = .ok (.iconst 1, 1) := by decide +kernel
theorem d_M_det_7 : decode b_M_det 7 = .ok (.iadd, 1) := by decide +kernel
theorem d_M_det_8 : decode b_M_det 8 = .ok (.laload, 1) := by decide +kernel
theorem d_M_det_9 : decode b_M_det 9 = .ok (.lstore 4, 2) := by decide +kernel
theorem d_M_det_11 : decode b_M_det 11 = .ok (.aload_n 0, 1) := by decide +kernel
theorem d_M_det_12 : decode b_M_det 12 = .ok (.iload_n 1, 1) := by decide +kernel
theorem d_M_det_13 : decode b_M_det 13 = .ok (.iconst 2, 1) := by decide +kernel
theorem d_M_det_14 : decode b_M_det 14 = .ok (.iadd, 1) := by decide +kernel
theorem d_M_det_15 : decode b_M_det 15 = .ok (.laload, 1) := by decide +kernel
theorem d_M_det_16 : decode b_M_det 16 = .ok (.lstore 6, 2) := by decide +kernel
theorem d_M_det_18 : decode b_M_det 18 = .ok (.aload_n 0, 1) := by decide +kernel
theorem d_M_det_19 : decode b_M_det 19 = .ok (.iload_n 1, 1) := by decide +kernel
theorem d_M_det_20 : decode b_M_det 20 = .ok (.iconst 3, 1) := by decide +kernel
theorem d_M_det_21 : decode b_M_det 21 = .ok (.iadd, 1) := by decide +kernel
theorem d_M_det_22 : decode b_M_det 22 = .ok (.laload, 1) := by decide +kernel
theorem d_M_det_23 : decode b_M_det 23 = .ok (.lstore 8, 2) := by decide +kernel
theorem d_M_det_25 : decode b_M_det 25 = .ok (.aload_n 0, 1) := by decide +kernel
theorem d_M_det_26 : decode b_M_det 26 = .ok (.iload_n 1, 1) := by decide +kernel
theorem d_M_det_27 : decode b_M_det 27 = .ok (.iconst 4, 1) := by decide +kernel
theorem d_M_det_28 : decode b_M_det 28 = .ok (.iadd, 1) := by decide +kernel
theorem d_M_det_29 : decode b_M_det 29 = .ok (.laload, 1) := by decide +kernel
theorem d_M_det_30 : decode b_M_det 30 = .ok (.lstore 10, 2) := by decide +kernel
theorem d_M_det_32 : decode b_M_det 32 = .ok (.aload_n 0, 1) := by decide +kernel
theorem d_M_det_33 : decode b_M_det 33 = .ok (.iload_n 1, 1) := by decide +kernel
theorem d_M_det_34 : decode b_M_det 34 = .ok (.iconst 5, 1) := by decide +kernel
theorem d_M_det_35 : decode b_M_det 35 = .ok (.iadd, 1) := by decide +kernel
theorem d_M_det_36 : decode b_M_det 36 = .ok (.laload, 1) := by decide +kernel
theorem d_M_det_37 : decode b_M_det 37 = .ok (.lstore 12, 2) := by decide +kernel
theorem d_M_det_39 : decode b_M_det 39 = .ok (.lload_n 2, 1) := by decide +kernel
theorem d_M_det_40 : decode b_M_det 40 = .ok (.lload 4, 2) := by decide +kernel
theorem d_M_det_42 : decode b_M_det 42 = .ok (.lload 6, 2) := by decide +kernel
theorem d_M_det_44 : decode b_M_det 44 = .ok (.lmul, 1) := by decide +kernel
theorem d_M_det_45 : decode b_M_det 45 = .ok (.lload 8, 2) := by decide +kernel
theorem d_M_det_47 : decode b_M_det 47 = .ok (.lload 8, 2) := by decide +kernel
theorem d_M_det_49 : decode b_M_det 49 = .ok (.lmul, 1) := by decide +kernel
theorem d_M_det_50 : decode b_M_det 50 = .ok (.lsub, 1) := by decide +kernel
theorem d_M_det_51 : decode b_M_det 51 = .ok (.lmul, 1) := by decide +kernel
theorem d_M_det_52 : decode b_M_det 52 = .ok (.lload 12, 2) := by decide +kernel
theorem d_M_det_54 : decode b_M_det 54 = .ok (.lload 12, 2) := by decide +kernel
theorem d_M_det_56 : decode b_M_det 56 = .ok (.lload 6, 2) := by decide +kernel
theorem d_M_det_58 : decode b_M_det 58 = .ok (.lmul, 1) := by decide +kernel
theorem d_M_det_59 : decode b_M_det 59 = .ok (.lload 8, 2) := by decide +kernel
theorem d_M_det_61 : decode b_M_det 61 = .ok (.lload 10, 2) := by decide +kernel
theorem d_M_det_63 : decode b_M_det 63 = .ok (.lmul, 1) := by decide +kernel
theorem d_M_det_64 : decode b_M_det 64 = .ok (.lsub, 1) := by decide +kernel
theorem d_M_det_65 : decode b_M_det 65 = .ok (.lmul, 1) := by decide +kernel
theorem d_M_det_66 : decode b_M_det 66 = .ok (.lsub, 1) := by decide +kernel
theorem d_M_det_67 : decode b_M_det 67 = .ok (.lload 10, 2) := by decide +kernel
theorem d_M_det_69 : decode b_M_det 69 = .ok (.lload 12, 2) := by decide +kernel
theorem d_M_det_71 : decode b_M_det 71 = .ok (.lload 8, 2) := by decide +kernel
theorem d_M_det_73 : decode b_M_det 73 = .ok (.lmul, 1) := by decide +kernel
theorem d_M_det_74 : decode b_M_det 74 = .ok (.lload 4, 2) := by decide +kernel
theorem d_M_det_76 : decode b_M_det 76 = .ok (.lload 10, 2) := by decide +kernel
theorem d_M_det_78 : decode b_M_det 78 = .ok (.lmul, 1) := by decide +kernel
theorem d_M_det_79 : decode b_M_det 79 = .ok (.lsub, 1) := by decide +kernel
theorem d_M_det_80 : decode b_M_det 80 = .ok (.lmul, 1) := by decide +kernel
theorem d_M_det_81 : decode b_M_det 81 = .ok (.ladd, 1) := by decide +kernel
theorem d_M_det_82 : decode b_M_det 82 = .ok (.lreturn, 1) := by decide +kernel
theorem d_M_dot_0 : decode b_M_dot 0 = .ok (.aload_n 0, 1) := by decide +kernel
theorem d_M_dot_1 : decode b_M_dot 1 = .ok (.iload_n 1, 1) := by decide +kernel
theorem d_M_dot_2 : decode b_M_dot 2 = .ok (.laload, 1) := by decide +kernel
theorem d_M_dot_3 : decode b_M_dot 3 = .ok (.lload_n 2, 1) := by decide +kernel
theorem d_M_dot_4 : decode b_M_dot 4 = .ok (.lmul, 1) := by decide +kernel
theorem d_M_dot_5 : decode b_M_dot 5 = .ok (.lload 8, 2) := by decide +kernel
theorem d_M_dot_7 : decode b_M_dot 7 = .ok (.lmul, 1) := by decide +kernel
theorem d_M_dot_8 : decode b_M_dot 8 = .ok (.aload_n 0, 1) := by decide +kernel
theorem d_M_dot_9 : decode b_M_dot 9 = .ok (.iload_n 1, 1) := by decide +kernel
theorem d_M_dot_10 : decode b_M_dot 10 = .ok (.iconst 1, 1) := by decide +kernel
theorem d_M_dot_11 : decode b_M_dot 11 = .ok (.iadd, 1) := by decide +kernel
theorem d_M_dot_12 : decode b_M_dot 12 = .ok (.laload, 1) := by decide +kernel
theorem d_M_dot_13 : decode b_M_dot 13 = .ok (.lload 4, 2) := by decide +kernel
theorem d_M_dot_15 : decode b_M_dot 15 = .ok (.lmul, 1) := by decide +kernel
theorem d_M_dot_16 : decode b_M_dot 16 = .ok (.lload 10, 2) := by decide +kernel
theorem d_M_dot_18 : decode b_M_dot 18 = .ok (.lmul, 1) := by decide +kernel
theorem d_M_dot_19 : decode b_M_dot 19 = .ok (.ladd, 1) := by decide +kernel
theorem d_M_dot_20 : decode b_M_dot 20 = .ok (.aload_n 0, 1) := by decide +kernel
theorem d_M_dot_21 : decode b_M_dot 21 = .ok (.iload_n 1, 1) := by decide +kernel
theorem d_M_dot_22 : decode b_M_dot 22 = .ok (.iconst 2, 1) := by decide +kernel
theorem d_M_dot_23 : decode b_M_dot 23 = .ok (.iadd, 1) := by decide +kernel
theorem d_M_dot_24 : decode b_M_dot 24 = .ok (.laload, 1) := by decide +kernel
theorem d_M_dot_25 : decode b_M_dot 25 = .ok (.lload 6, 2) := by decide +kernel
theorem d_M_dot_27 : decode b_M_dot 27 = .ok (.lmul, 1) := by decide +kernel
theorem d_M_dot_28 : decode b_M_dot 28 = .ok (.lload 12, 2) := by decide +kernel
theorem d_M_dot_30 : decode b_M_dot 30 = .ok (.lmul, 1) := by decide +kernel
theorem d_M_dot_31 : decode b_M_dot 31 = .ok (.ladd, 1) := by decide +kernel
theorem d_M_dot_32 : decode b_M_dot 32 = .ok (.aload_n 0, 1) := by decide +kernel
theorem d_M_dot_33 : decode b_M_dot 33 = .ok (.iload_n 1, 1) := by decide +kernel
theorem d_M_dot_34 : decode b_M_dot 34 = .ok (.iconst 3, 1) := by decide +kernel
theorem d_M_dot_35 : decode b_M_dot 35 = .ok (.iadd, 1) := by decide +kernel
theorem d_M_dot_36 : decode b_M_dot 36 = .ok (.laload, 1) := by decide +kernel
theorem d_M_dot_37 : decode b_M_dot 37 = .ok (.lload 4, 2) := by decide +kernel
theorem d_M_dot_39 : decode b_M_dot 39 = .ok (.lload 12, 2) := by decide +kernel
theorem d_M_dot_41 : decode b_M_dot 41 = .ok (.lmul, 1) := by decide +kernel
theorem d_M_dot_42 : decode b_M_dot 42 = .ok (.lload 6, 2) := by decide +kernel
theorem d_M_dot_44 : decode b_M_dot 44 = .ok (.lload 10, 2) := by decide +kernel
theorem d_M_dot_46 : decode b_M_dot 46 = .ok (.lmul, 1) := by decide +kernel
theorem d_M_dot_47 : decode b_M_dot 47 = .ok (.ladd, 1) := by decide +kernel
theorem d_M_dot_48 : decode b_M_dot 48 = .ok (.lmul, 1) := by decide +kernel
theorem d_M_dot_49 : decode b_M_dot 49 = .ok (.ladd, 1) := by decide +kernel
theorem d_M_dot_50 : decode b_M_dot 50 = .ok (.aload_n 0, 1) := by decide +kernel
theorem d_M_dot_51 : decode b_M_dot 51 = .ok (.iload_n 1, 1) := by decide +kernel
theorem d_M_dot_52 : decode b_M_dot 52 = .ok (.iconst 4, 1) := by decide +kernel
theorem d_M_dot_53 : decode b_M_dot 53 = .ok (.iadd, 1) := by decide +kernel
theorem d_M_dot_54 : decode b_M_dot 54 = .ok (.laload, 1) := by decide +kernel
theorem d_M_dot_55 : decode b_M_dot 55 = .ok (.lload_n 2, 1) := by decide +kernel
theorem d_M_dot_56 : decode b_M_dot 56 = .ok (.lload 12, 2) := by decide +kernel
theorem d_M_dot_58 : decode b_M_dot 58 = .ok (.lmul, 1) := by decide +kernel
theorem d_M_dot_59 : decode b_M_dot 59 = .ok (.lload 6, 2) := by decide +kernel
theorem d_M_dot_61 : decode b_M_dot 61 = .ok (.lload 8, 2) := by decide +kernel
theorem d_M_dot_63 : decode b_M_dot 63 = .ok (.lmul, 1) := by decide +kernel
theorem d_M_dot_64 : decode b_M_dot 64 = .ok (.ladd, 1) := by decide +kernel
theorem d_M_dot_65 : decode b_M_dot 65 = .ok (.lmul, 1) := by decide +kernel
theorem d_M_dot_66 : decode b_M_dot 66 = .ok (.ladd, 1) := by decide +kernel
theorem d_M_dot_67 : decode b_M_dot 67 = .ok (.aload_n 0, 1) := by decide +kernel
theorem d_M_dot_68 : decode b_M_dot 68 = .ok (.iload_n 1, 1) := by decide +kernel
theorem d_M_dot_69 : decode b_M_dot 69 = .ok (.iconst 5, 1) := by decide +kernel
theorem d_M_dot_70 : decode b_M_dot 70 = .ok (.iadd, 1) := by decide +kernel
theorem d_M_dot_71 : decode b_M_dot 71 = .ok (.laload, 1) := by decide +kernel
theorem d_M_dot_72 : decode b_M_dot 72 = .ok (.lload_n 2, 1) := by decide +kernel
theorem d_M_dot_73 : decode b_M_dot 73 = .ok (.lload 10, 2) := by decide +kernel
theorem d_M_dot_75 : decode b_M_dot 75 = .ok (.lmul, 1) := by decide +kernel
theorem d_M_dot_76 : decode b_M_dot 76 = .ok (.lload 4, 2) := by decide +kernel
theorem d_M_dot_78 : decode b_M_dot 78 = .ok (.lload 8, 2) := by decide +kernel
theorem d_M_dot_80 : decode b_M_dot 80 = .ok (.lmul, 1) := by decide +kernel
theorem d_M_dot_81 : decode b_M_dot 81 = .ok (.ladd, 1) := by decide +kernel
theorem d_M_dot_82 : decode b_M_dot 82 = .ok (.lmul, 1) := by decide +kernel
theorem d_M_dot_83 : decode b_M_dot 83 = .ok (.ladd, 1) := by decide +kernel
theorem d_M_dot_84 : decode b_M_dot 84 = .ok (.lreturn, 1) := by decide +kernel
theorem d_M_open_0 : decode b_M_open 0 = .ok (.iload_n 1, 1) := by decide +kernel
theorem d_M_open_1 : decode b_M_open 1 = .ok (.istore_n 2, 1) := by decide +kernel
theorem d_M_open_2 : decode b_M_open 2 = .ok (.bipush 8, 2) := by decide +kernel
theorem d_M_open_4 : decode b_M_open 4 = .ok (.istore_n 3, 1) := by decide +kernel
theorem d_M_open_5 : decode b_M_open 5 = .ok (.iload_n 3, 1) := by decide +kernel
theorem d_M_open_6 : decode b_M_open 6 = .ok (.ifCond .lt 24, 3) := by decide +kernel
theorem d_M_open_9 : decode b_M_open 9 = .ok (.aload_n 0, 1) := by decide +kernel
theorem d_M_open_10 : decode b_M_open 10 = .ok (.getfield 7, 3) := by decide +kernel
theorem d_M_open_13 : decode b_M_open 13 = .ok (.iload_n 3, 1) := by decide +kernel
theorem d_M_open_14 : decode b_M_open 14 = .ok (.iload_n 2, 1) := by decide +kernel
theorem d_M_open_15 : decode b_M_open 15 = .ok (.iconst 3, 1) := by decide +kernel
theorem d_M_open_16 : decode b_M_open 16 = .ok (.irem, 1) := by decide +kernel
theorem d_M_open_17 : decode b_M_open 17 = .ok (.iconst 1, 1) := by decide +kernel
theorem d_M_open_18 : decode b_M_open 18 = .ok (.isub, 1) := by decide +kernel
theorem d_M_open_19 : decode b_M_open 19 = .ok (.iastore, 1) := by decide +kernel
theorem d_M_open_20 : decode b_M_open 20 = .ok (.iload_n 2, 1) := by decide +kernel
theorem d_M_open_21 : decode b_M_open 21 = .ok (.iconst 3, 1) := by decide +kernel
theorem d_M_open_22 : decode b_M_open 22 = .ok (.idiv, 1) := by decide +kernel
theorem d_M_open_23 : decode b_M_open 23 = .ok (.istore_n 2, 1) := by decide +kernel
theorem d_M_open_24 : decode b_M_open 24 = .ok (.iinc 3 (-1), 3) := by decide +kernel
theorem d_M_open_27 : decode b_M_open 27 = .ok (.goto (-22), 3) := by decide +kernel
theorem d_M_open_30 : decode b_M_open 30 = .ok (.return_, 1) := by decide +kernel
theorem d_M_isCell_0 : decode b_M_isCell 0 = .ok (.iload_n 1, 1) := by decide +kernel
theorem d_M_isCell_1 : decode b_M_isCell 1 = .ok (.ifCond .lt 15, 3) := by decide +kernel
theorem d_M_isCell_4 : decode b_M_isCell 4 = .ok (.iload_n 1, 1) := by decide +kernel
theorem d_M_isCell_5 : decode b_M_isCell 5 = .ok (.aload_n 0, 1) := by decide +kernel
theorem d_M_isCell_6 : decode b_M_isCell 6 = .ok (.getfield 42, 3) := by decide +kernel
theorem d_M_isCell_9 : decode b_M_isCell 9 = .ok (.if_icmp .ge 7, 3) := by decide +kernel
theorem d_M_isCell_12 : decode b_M_isCell 12 = .ok (.iconst 1, 1) := by decide +kernel
theorem d_M_isCell_13 : decode b_M_isCell 13 = .ok (.goto 4, 3) := by decide +kernel
theorem d_M_isCell_16 : decode b_M_isCell 16 = .ok (.iconst 0, 1) := by decide +kernel
theorem d_M_isCell_17 : decode b_M_isCell 17 = .ok (.ireturn, 1) := by decide +kernel
theorem d_M_isMul_0 : decode b_M_isMul 0 = .ok (.aload_n 0, 1) := by decide +kernel
theorem d_M_isMul_1 : decode b_M_isMul 1 = .ok (.iload_n 1, 1) := by decide +kernel
theorem d_M_isMul_2 : decode b_M_isMul 2 = .ok (.invokevirtual 91, 3) := by decide +kernel
theorem d_M_isMul_5 : decode b_M_isMul 5 = .ok (.ifCond .eq 18, 3) := by decide +kernel
theorem d_M_isMul_8 : decode b_M_isMul 8 = .ok (.iload_n 2, 1) := by decide +kernel
theorem d_M_isMul_9 : decode b_M_isMul 9 = .ok (.iconst 1, 1) := by decide +kernel
theorem d_M_isMul_10 : decode b_M_isMul 10 = .ok (.if_icmp .lt 13, 3) := by decide +kernel
theorem d_M_isMul_13 : decode b_M_isMul 13 = .ok (.iload_n 2, 1) := by decide +kernel
theorem d_M_isMul_14 : decode b_M_isMul 14 = .ok (.bipush 12, 2) := by decide +kernel
theorem d_M_isMul_16 : decode b_M_isMul 16 = .ok (.if_icmp .gt 7, 3) := by decide +kernel
theorem d_M_isMul_19 : decode b_M_isMul 19 = .ok (.iconst 1, 1) := by decide +kernel
theorem d_M_isMul_20 : decode b_M_isMul 20 = .ok (.goto 4, 3) := by decide +kernel
theorem d_M_isMul_23 : decode b_M_isMul 23 = .ok (.iconst 0, 1) := by decide +kernel
theorem d_M_isMul_24 : decode b_M_isMul 24 = .ok (.ireturn, 1) := by decide +kernel
theorem d_M_keeps6_0 : decode b_M_keeps6 0 = .ok (.aload_n 1, 1) := by decide +kernel
theorem d_M_keeps6_1 : decode b_M_keeps6 1 = .ok (.iload_n 2, 1) := by decide +kernel
theorem d_M_keeps6_2 : decode b_M_keeps6 2 = .ok (.aload_n 0, 1) := by decide +kernel
theorem d_M_keeps6_3 : decode b_M_keeps6 3 = .ok (.getfield 7, 3) := by decide +kernel
theorem d_M_keeps6_6 : decode b_M_keeps6 6 = .ok (.iconst 0, 1) := by decide +kernel
theorem d_M_keeps6_7 : decode b_M_keeps6 7 = .ok (.iaload, 1) := by decide +kernel
theorem d_M_keeps6_8 : decode b_M_keeps6 8 = .ok (.i2l, 1) := by decide +kernel
theorem d_M_keeps6_9 : decode b_M_keeps6 9 = .ok (.aload_n 0, 1) := by decide +kernel
theorem d_M_keeps6_10 : decode b_M_keeps6 10 = .ok (.getfield 7, 3) := by decide +kernel
theorem d_M_keeps6_13 : decode b_M_keeps6 13 = .ok (.iconst 3, 1) := by decide +kernel
theorem d_M_keeps6_14 : decode b_M_keeps6 14 = .ok (.iaload, 1) := by decide +kernel
theorem d_M_keeps6_15 : decode b_M_keeps6 15 = .ok (.i2l, 1) := by decide +kernel
theorem d_M_keeps6_16 : decode b_M_keeps6 16 = .ok (.aload_n 0, 1) := by decide +kernel
theorem d_M_keeps6_17 : decode b_M_keeps6 17 = .ok (.getfield 7, 3) := by decide +kernel
theorem d_M_keeps6_20 : decode b_M_keeps6 20 = .ok (.bipush 6, 2) := by decide +kernel
theorem d_M_keeps6_22 : decode b_M_keeps6 22 = .ok (.iaload, 1) := by decide +kernel
theorem d_M_keeps6_23 : decode b_M_keeps6 23 = .ok (.i2l, 1) := by decide +kernel
theorem d_M_keeps6_24 : decode b_M_keeps6 24 = .ok (.aload_n 0, 1) := by decide +kernel
theorem d_M_keeps6_25 : decode b_M_keeps6 25 = .ok (.getfield 7, 3) := by decide +kernel
theorem d_M_keeps6_28 : decode b_M_keeps6 28 = .ok (.iconst 0, 1) := by decide +kernel
theorem d_M_keeps6_29 : decode b_M_keeps6 29 = .ok (.iaload, 1) := by decide +kernel
theorem d_M_keeps6_30 : decode b_M_keeps6 30 = .ok (.i2l, 1) := by decide +kernel
theorem d_M_keeps6_31 : decode b_M_keeps6 31 = .ok (.aload_n 0, 1) := by decide +kernel
theorem d_M_keeps6_32 : decode b_M_keeps6 32 = .ok (.getfield 7, 3) := by decide +kernel
theorem d_M_keeps6_35 : decode b_M_keeps6 35 = .ok (.iconst 3, 1) := by decide +kernel
theorem d_M_keeps6_36 : decode b_M_keeps6 36 = .ok (.iaload, 1) := by decide +kernel
theorem d_M_keeps6_37 : decode b_M_keeps6 37 = .ok (.i2l, 1) := by decide +kernel
theorem d_M_keeps6_38 : decode b_M_keeps6 38 = .ok (.aload_n 0, 1) := by decide +kernel
theorem d_M_keeps6_39 : decode b_M_keeps6 39 = .ok (.getfield 7, 3) := by decide +kernel
theorem d_M_keeps6_42 : decode b_M_keeps6 42 = .ok (.bipush 6, 2) := by decide +kernel
theorem d_M_keeps6_44 : decode b_M_keeps6 44 = .ok (.iaload, 1) := by decide +kernel
theorem d_M_keeps6_45 : decode b_M_keeps6 45 = .ok (.i2l, 1) := by decide +kernel
theorem d_M_keeps6_46 : decode b_M_keeps6 46 = .ok (.invokestatic 87, 3) := by decide +kernel
theorem d_M_keeps6_49 : decode b_M_keeps6 49 = .ok (.aload_n 1, 1) := by decide +kernel
theorem d_M_keeps6_50 : decode b_M_keeps6 50 = .ok (.iload_n 2, 1) := by decide +kernel
theorem d_M_keeps6_51 : decode b_M_keeps6 51 = .ok (.laload, 1) := by decide +kernel
theorem d_M_keeps6_52 : decode b_M_keeps6 52 = .ok (.lcmp, 1) := by decide +kernel
theorem d_M_keeps6_53 : decode b_M_keeps6 53 = .ok (.ifCond .ne 297, 3) := by decide +kernel
theorem d_M_keeps6_56 : decode b_M_keeps6 56 = .ok (.aload_n 1, 1) := by decide +kernel
theorem d_M_keeps6_57 : decode b_M_keeps6 57 = .ok (.iload_n 2, 1) := by decide +kernel
theorem d_M_keeps6_58 : decode b_M_keeps6 58 = .ok (.aload_n 0, 1) := by decide +kernel
theorem d_M_keeps6_59 : decode b_M_keeps6 59 = .ok (.getfield 7, 3) := by decide +kernel
theorem d_M_keeps6_62 : decode b_M_keeps6 62 = .ok (.iconst 1, 1) := by decide +kernel
theorem d_M_keeps6_63 : decode b_M_keeps6 63 = .ok (.iaload, 1) := by decide +kernel
theorem d_M_keeps6_64 : decode b_M_keeps6 64 = .ok (.i2l, 1) := by decide +kernel
theorem d_M_keeps6_65 : decode b_M_keeps6 65 = .ok (.aload_n 0, 1) := by decide +kernel
theorem d_M_keeps6_66 : decode b_M_keeps6 66 = .ok (.getfield 7, 3) := by decide +kernel
theorem d_M_keeps6_69 : decode b_M_keeps6 69 = .ok (.iconst 4, 1) := by decide +kernel
theorem d_M_keeps6_70 : decode b_M_keeps6 70 = .ok (.iaload, 1) := by decide +kernel
theorem d_M_keeps6_71 : decode b_M_keeps6 71 = .ok (.i2l, 1) := by decide +kernel
theorem d_M_keeps6_72 : decode b_M_keeps6 72 = .ok (.aload_n 0, 1) := by decide +kernel
theorem d_M_keeps6_73 : decode b_M_keeps6 73 = .ok (.getfield 7, 3) := by decide +kernel
theorem d_M_keeps6_76 : decode b_M_keeps6 76 = .ok (.bipush 7, 2) := by decide +kernel
theorem d_M_keeps6_78 : decode b_M_keeps6 78 = .ok (.iaload, 1) := by decide +kernel
theorem d_M_keeps6_79 : decode b_M_keeps6 79 = .ok (.i2l, 1) := by decide +kernel
theorem d_M_keeps6_80 : decode b_M_keeps6 80 = .ok (.aload_n 0, 1) := by decide +kernel
theorem d_M_keeps6_81 : decode b_M_keeps6 81 = .ok (.getfield 7, 3) := by decide +kernel
theorem d_M_keeps6_84 : decode b_M_keeps6 84 = .ok (.iconst 1, 1) := by decide +kernel
theorem d_M_keeps6_85 : decode b_M_keeps6 85 = .ok (.iaload, 1) := by decide +kernel
theorem d_M_keeps6_86 : decode b_M_keeps6 86 = .ok (.i2l, 1) := by decide +kernel
theorem d_M_keeps6_87 : decode b_M_keeps6 87 = .ok (.aload_n 0, 1) := by decide +kernel
theorem d_M_keeps6_88 : decode b_M_keeps6 88 = .ok (.getfield 7, 3) := by decide +kernel
theorem d_M_keeps6_91 : decode b_M_keeps6 91 = .ok (.iconst 4, 1) := by decide +kernel
theorem d_M_keeps6_92 : decode b_M_keeps6 92 = .ok (.iaload, 1) := by decide +kernel
theorem d_M_keeps6_93 : decode b_M_keeps6 93 = .ok (.i2l, 1) := by decide +kernel
theorem d_M_keeps6_94 : decode b_M_keeps6 94 = .ok (.aload_n 0, 1) := by decide +kernel
theorem d_M_keeps6_95 : decode b_M_keeps6 95 = .ok (.getfield 7, 3) := by decide +kernel
theorem d_M_keeps6_98 : decode b_M_keeps6 98 = .ok (.bipush 7, 2) := by decide +kernel
theorem d_M_keeps6_100 : decode b_M_keeps6 100 = .ok (.iaload, 1) := by decide +kernel
theorem d_M_keeps6_101 : decode b_M_keeps6 101 = .ok (.i2l, 1) := by decide +kernel
theorem d_M_keeps6_102 : decode b_M_keeps6 102 = .ok (.invokestatic 87, 3) := by decide +kernel
theorem d_M_keeps6_105 : decode b_M_keeps6 105 = .ok (.aload_n 1, 1) := by decide +kernel
theorem d_M_keeps6_106 : decode b_M_keeps6 106 = .ok (.iload_n 2, 1) := by decide +kernel
theorem d_M_keeps6_107 : decode b_M_keeps6 107 = .ok (.iconst 1, 1) := by decide +kernel
theorem d_M_keeps6_108 : decode b_M_keeps6 108 = .ok (.iadd, 1) := by decide +kernel
theorem d_M_keeps6_109 : decode b_M_keeps6 109 = .ok (.laload, 1) := by decide +kernel
theorem d_M_keeps6_110 : decode b_M_keeps6 110 = .ok (.lcmp, 1) := by decide +kernel
theorem d_M_keeps6_111 : decode b_M_keeps6 111 = .ok (.ifCond .ne 239, 3) := by decide +kernel
theorem d_M_keeps6_114 : decode b_M_keeps6 114 = .ok (.aload_n 1, 1) := by decide +kernel
theorem d_M_keeps6_115 : decode b_M_keeps6 115 = .ok (.iload_n 2, 1) := by decide +kernel
theorem d_M_keeps6_116 : decode b_M_keeps6 116 = .ok (.aload_n 0, 1) := by decide +kernel
theorem d_M_keeps6_117 : decode b_M_keeps6 117 = .ok (.getfield 7, 3) := by decide +kernel
theorem d_M_keeps6_120 : decode b_M_keeps6 120 = .ok (.iconst 2, 1) := by decide +kernel
theorem d_M_keeps6_121 : decode b_M_keeps6 121 = .ok (.iaload, 1) := by decide +kernel
theorem d_M_keeps6_122 : decode b_M_keeps6 122 = .ok (.i2l, 1) := by decide +kernel
theorem d_M_keeps6_123 : decode b_M_keeps6 123 = .ok (.aload_n 0, 1) := by decide +kernel
theorem d_M_keeps6_124 : decode b_M_keeps6 124 = .ok (.getfield 7, 3) := by decide +kernel
theorem d_M_keeps6_127 : decode b_M_keeps6 127 = .ok (.iconst 5, 1) := by decide +kernel
theorem d_M_keeps6_128 : decode b_M_keeps6 128 = .ok (.iaload, 1) := by decide +kernel
theorem d_M_keeps6_129 : decode b_M_keeps6 129 = .ok (.i2l, 1) := by decide +kernel
theorem d_M_keeps6_130 : decode b_M_keeps6 130 = .ok (.aload_n 0, 1) := by decide +kernel
theorem d_M_keeps6_131 : decode b_M_keeps6 131 = .ok (.getfield 7, 3) := by decide +kernel
theorem d_M_keeps6_134 : decode b_M_keeps6 134 = .ok (.bipush 8, 2) := by decide +kernel
theorem d_M_keeps6_136 : decode b_M_keeps6 136 = .ok (.iaload, 1) := by decide +kernel
theorem d_M_keeps6_137 : decode b_M_keeps6 137 = .ok (.i2l, 1) := by decide +kernel
theorem d_M_keeps6_138 : decode b_M_keeps6 138 = .ok (.aload_n 0, 1) := by decide +kernel
theorem d_M_keeps6_139 : decode b_M_keeps6 139 = .ok (.getfield 7, 3) := by decide +kernel
theorem d_M_keeps6_142 : decode b_M_keeps6 142 = .ok (.iconst 2, 1) := by decide +kernel
theorem d_M_keeps6_143 : decode b_M_keeps6 143 = .ok (.iaload, 1) := by decide +kernel
theorem d_M_keeps6_144 : decode b_M_keeps6 144 = .ok (.i2l, 1) := by decide +kernel
theorem d_M_keeps6_145 : decode b_M_keeps6 145 = .ok (.aload_n 0, 1) := by decide +kernel
theorem d_M_keeps6_146 : decode b_M_keeps6 146 = .ok (.getfield 7, 3) := by decide +kernel
theorem d_M_keeps6_149 : decode b_M_keeps6 149 = .ok (.iconst 5, 1) := by decide +kernel
theorem d_M_keeps6_150 : decode b_M_keeps6 150 = .ok (.iaload, 1) := by decide +kernel
theorem d_M_keeps6_151 : decode b_M_keeps6 151 = .ok (.i2l, 1) := by decide +kernel
theorem d_M_keeps6_152 : decode b_M_keeps6 152 = .ok (.aload_n 0, 1) := by decide +kernel
theorem d_M_keeps6_153 : decode b_M_keeps6 153 = .ok (.getfield 7, 3) := by decide +kernel
theorem d_M_keeps6_156 : decode b_M_keeps6 156 = .ok (.bipush 8, 2) := by decide +kernel
theorem d_M_keeps6_158 : decode b_M_keeps6 158 = .ok (.iaload, 1) := by decide +kernel
theorem d_M_keeps6_159 : decode b_M_keeps6 159 = .ok (.i2l, 1) := by decide +kernel
theorem d_M_keeps6_160 : decode b_M_keeps6 160 = .ok (.invokestatic 87, 3) := by decide +kernel
theorem d_M_keeps6_163 : decode b_M_keeps6 163 = .ok (.aload_n 1, 1) := by decide +kernel
theorem d_M_keeps6_164 : decode b_M_keeps6 164 = .ok (.iload_n 2, 1) := by decide +kernel
theorem d_M_keeps6_165 : decode b_M_keeps6 165 = .ok (.iconst 2, 1) := by decide +kernel
theorem d_M_keeps6_166 : decode b_M_keeps6 166 = .ok (.iadd, 1) := by decide +kernel
theorem d_M_keeps6_167 : decode b_M_keeps6 167 = .ok (.laload, 1) := by decide +kernel
theorem d_M_keeps6_168 : decode b_M_keeps6 168 = .ok (.lcmp, 1) := by decide +kernel
theorem d_M_keeps6_169 : decode b_M_keeps6 169 = .ok (.ifCond .ne 181, 3) := by decide +kernel
theorem d_M_keeps6_172 : decode b_M_keeps6 172 = .ok (.aload_n 1, 1) := by decide +kernel
theorem d_M_keeps6_173 : decode b_M_keeps6 173 = .ok (.iload_n 2, 1) := by decide +kernel
theorem d_M_keeps6_174 : decode b_M_keeps6 174 = .ok (.aload_n 0, 1) := by decide +kernel
theorem d_M_keeps6_175 : decode b_M_keeps6 175 = .ok (.getfield 7, 3) := by decide +kernel
theorem d_M_keeps6_178 : decode b_M_keeps6 178 = .ok (.iconst 1, 1) := by decide +kernel
theorem d_M_keeps6_179 : decode b_M_keeps6 179 = .ok (.iaload, 1) := by decide +kernel
theorem d_M_keeps6_180 : decode b_M_keeps6 180 = .ok (.i2l, 1) := by decide +kernel
theorem d_M_keeps6_181 : decode b_M_keeps6 181 = .ok (.aload_n 0, 1) := by decide +kernel
theorem d_M_keeps6_182 : decode b_M_keeps6 182 = .ok (.getfield 7, 3) := by decide +kernel
theorem d_M_keeps6_185 : decode b_M_keeps6 185 = .ok (.iconst 4, 1) := by decide +kernel
theorem d_M_keeps6_186 : decode b_M_keeps6 186 = .ok (.iaload, 1) := by decide +kernel
theorem d_M_keeps6_187 : decode b_M_keeps6 187 = .ok (.i2l, 1) := by decide +kernel
theorem d_M_keeps6_188 : decode b_M_keeps6 188 = .ok (.aload_n 0, 1) := by decide +kernel
theorem d_M_keeps6_189 : decode b_M_keeps6 189 = .ok (.getfield 7, 3) := by decide +kernel
theorem d_M_keeps6_192 : decode b_M_keeps6 192 = .ok (.bipush 7, 2) := by decide +kernel
theorem d_M_keeps6_194 : decode b_M_keeps6 194 = .ok (.iaload, 1) := by decide +kernel
theorem d_M_keeps6_195 : decode b_M_keeps6 195 = .ok (.i2l, 1) := by decide +kernel
theorem d_M_keeps6_196 : decode b_M_keeps6 196 = .ok (.aload_n 0, 1) := by decide +kernel
theorem d_M_keeps6_197 : decode b_M_keeps6 197 = .ok (.getfield 7, 3) := by decide +kernel
theorem d_M_keeps6_200 : decode b_M_keeps6 200 = .ok (.iconst 2, 1) := by decide +kernel
theorem d_M_keeps6_201 : decode b_M_keeps6 201 = .ok (.iaload, 1) := by decide +kernel
theorem d_M_keeps6_202 : decode b_M_keeps6 202 = .ok (.i2l, 1) := by decide +kernel
theorem d_M_keeps6_203 : decode b_M_keeps6 203 = .ok (.aload_n 0, 1) := by decide +kernel
theorem d_M_keeps6_204 : decode b_M_keeps6 204 = .ok (.getfield 7, 3) := by decide +kernel
theorem d_M_keeps6_207 : decode b_M_keeps6 207 = .ok (.iconst 5, 1) := by decide +kernel
theorem d_M_keeps6_208 : decode b_M_keeps6 208 = .ok (.iaload, 1) := by decide +kernel
theorem d_M_keeps6_209 : decode b_M_keeps6 209 = .ok (.i2l, 1) := by decide +kernel
theorem d_M_keeps6_210 : decode b_M_keeps6 210 = .ok (.aload_n 0, 1) := by decide +kernel
theorem d_M_keeps6_211 : decode b_M_keeps6 211 = .ok (.getfield 7, 3) := by decide +kernel
theorem d_M_keeps6_214 : decode b_M_keeps6 214 = .ok (.bipush 8, 2) := by decide +kernel
theorem d_M_keeps6_216 : decode b_M_keeps6 216 = .ok (.iaload, 1) := by decide +kernel
theorem d_M_keeps6_217 : decode b_M_keeps6 217 = .ok (.i2l, 1) := by decide +kernel
theorem d_M_keeps6_218 : decode b_M_keeps6 218 = .ok (.invokestatic 87, 3) := by decide +kernel
theorem d_M_keeps6_221 : decode b_M_keeps6 221 = .ok (.aload_n 1, 1) := by decide +kernel
theorem d_M_keeps6_222 : decode b_M_keeps6 222 = .ok (.iload_n 2, 1) := by decide +kernel
theorem d_M_keeps6_223 : decode b_M_keeps6 223 = .ok (.iconst 3, 1) := by decide +kernel
theorem d_M_keeps6_224 : decode b_M_keeps6 224 = .ok (.iadd, 1) := by decide +kernel
theorem d_M_keeps6_225 : decode b_M_keeps6 225 = .ok (.laload, 1) := by decide +kernel
theorem d_M_keeps6_226 : decode b_M_keeps6 226 = .ok (.lcmp, 1) := by decide +kernel
theorem d_M_keeps6_227 : decode b_M_keeps6 227 = .ok (.ifCond .ne 123, 3) := by decide +kernel
theorem d_M_keeps6_230 : decode b_M_keeps6 230 = .ok (.aload_n 1, 1) := by decide +kernel
theorem d_M_keeps6_231 : decode b_M_keeps6 231 = .ok (.iload_n 2, 1) := by decide +kernel
theorem d_M_keeps6_232 : decode b_M_keeps6 232 = .ok (.aload_n 0, 1) := by decide +kernel
theorem d_M_keeps6_233 : decode b_M_keeps6 233 = .ok (.getfield 7, 3) := by decide +kernel
theorem d_M_keeps6_236 : decode b_M_keeps6 236 = .ok (.iconst 0, 1) := by decide +kernel
theorem d_M_keeps6_237 : decode b_M_keeps6 237 = .ok (.iaload, 1) := by decide +kernel
theorem d_M_keeps6_238 : decode b_M_keeps6 238 = .ok (.i2l, 1) := by decide +kernel
theorem d_M_keeps6_239 : decode b_M_keeps6 239 = .ok (.aload_n 0, 1) := by decide +kernel
theorem d_M_keeps6_240 : decode b_M_keeps6 240 = .ok (.getfield 7, 3) := by decide +kernel
theorem d_M_keeps6_243 : decode b_M_keeps6 243 = .ok (.iconst 3, 1) := by decide +kernel
theorem d_M_keeps6_244 : decode b_M_keeps6 244 = .ok (.iaload, 1) := by decide +kernel
theorem d_M_keeps6_245 : decode b_M_keeps6 245 = .ok (.i2l, 1) := by decide +kernel
theorem d_M_keeps6_246 : decode b_M_keeps6 246 = .ok (.aload_n 0, 1) := by decide +kernel
theorem d_M_keeps6_247 : decode b_M_keeps6 247 = .ok (.getfield 7, 3) := by decide +kernel
theorem d_M_keeps6_250 : decode b_M_keeps6 250 = .ok (.bipush 6, 2) := by decide +kernel
theorem d_M_keeps6_252 : decode b_M_keeps6 252 = .ok (.iaload, 1) := by decide +kernel
theorem d_M_keeps6_253 : decode b_M_keeps6 253 = .ok (.i2l, 1) := by decide +kernel
theorem d_M_keeps6_254 : decode b_M_keeps6 254 = .ok (.aload_n 0, 1) := by decide +kernel
theorem d_M_keeps6_255 : decode b_M_keeps6 255 = .ok (.getfield 7, 3) := by decide +kernel
theorem d_M_keeps6_258 : decode b_M_keeps6 258 = .ok (.iconst 2, 1) := by decide +kernel
theorem d_M_keeps6_259 : decode b_M_keeps6 259 = .ok (.iaload, 1) := by decide +kernel
theorem d_M_keeps6_260 : decode b_M_keeps6 260 = .ok (.i2l, 1) := by decide +kernel
theorem d_M_keeps6_261 : decode b_M_keeps6 261 = .ok (.aload_n 0, 1) := by decide +kernel
theorem d_M_keeps6_262 : decode b_M_keeps6 262 = .ok (.getfield 7, 3) := by decide +kernel
theorem d_M_keeps6_265 : decode b_M_keeps6 265 = .ok (.iconst 5, 1) := by decide +kernel
theorem d_M_keeps6_266 : decode b_M_keeps6 266 = .ok (.iaload, 1) := by decide +kernel
theorem d_M_keeps6_267 : decode b_M_keeps6 267 = .ok (.i2l, 1) := by decide +kernel
theorem d_M_keeps6_268 : decode b_M_keeps6 268 = .ok (.aload_n 0, 1) := by decide +kernel
theorem d_M_keeps6_269 : decode b_M_keeps6 269 = .ok (.getfield 7, 3) := by decide +kernel
theorem d_M_keeps6_272 : decode b_M_keeps6 272 = .ok (.bipush 8, 2) := by decide +kernel
theorem d_M_keeps6_274 : decode b_M_keeps6 274 = .ok (.iaload, 1) := by decide +kernel
theorem d_M_keeps6_275 : decode b_M_keeps6 275 = .ok (.i2l, 1) := by decide +kernel
theorem d_M_keeps6_276 : decode b_M_keeps6 276 = .ok (.invokestatic 87, 3) := by decide +kernel
theorem d_M_keeps6_279 : decode b_M_keeps6 279 = .ok (.aload_n 1, 1) := by decide +kernel
theorem d_M_keeps6_280 : decode b_M_keeps6 280 = .ok (.iload_n 2, 1) := by decide +kernel
theorem d_M_keeps6_281 : decode b_M_keeps6 281 = .ok (.iconst 4, 1) := by decide +kernel
theorem d_M_keeps6_282 : decode b_M_keeps6 282 = .ok (.iadd, 1) := by decide +kernel
theorem d_M_keeps6_283 : decode b_M_keeps6 283 = .ok (.laload, 1) := by decide +kernel
theorem d_M_keeps6_284 : decode b_M_keeps6 284 = .ok (.lcmp, 1) := by decide +kernel
theorem d_M_keeps6_285 : decode b_M_keeps6 285 = .ok (.ifCond .ne 65, 3) := by decide +kernel
theorem d_M_keeps6_288 : decode b_M_keeps6 288 = .ok (.aload_n 1, 1) := by decide +kernel
theorem d_M_keeps6_289 : decode b_M_keeps6 289 = .ok (.iload_n 2, 1) := by decide +kernel
theorem d_M_keeps6_290 : decode b_M_keeps6 290 = .ok (.aload_n 0, 1) := by decide +kernel
theorem d_M_keeps6_291 : decode b_M_keeps6 291 = .ok (.getfield 7, 3) := by decide +kernel
theorem d_M_keeps6_294 : decode b_M_keeps6 294 = .ok (.iconst 0, 1) := by decide +kernel
theorem d_M_keeps6_295 : decode b_M_keeps6 295 = .ok (.iaload, 1) := by decide +kernel
theorem d_M_keeps6_296 : decode b_M_keeps6 296 = .ok (.i2l, 1) := by decide +kernel
theorem d_M_keeps6_297 : decode b_M_keeps6 297 = .ok (.aload_n 0, 1) := by decide +kernel
theorem d_M_keeps6_298 : decode b_M_keeps6 298 = .ok (.getfield 7, 3) := by decide +kernel
theorem d_M_keeps6_301 : decode b_M_keeps6 301 = .ok (.iconst 3, 1) := by decide +kernel
theorem d_M_keeps6_302 : decode b_M_keeps6 302 = .ok (.iaload, 1) := by decide +kernel
theorem d_M_keeps6_303 : decode b_M_keeps6 303 = .ok (.i2l, 1) := by decide +kernel
theorem d_M_keeps6_304 : decode b_M_keeps6 304 = .ok (.aload_n 0, 1) := by decide +kernel
theorem d_M_keeps6_305 : decode b_M_keeps6 305 = .ok (.getfield 7, 3) := by decide +kernel
theorem d_M_keeps6_308 : decode b_M_keeps6 308 = .ok (.bipush 6, 2) := by decide +kernel
theorem d_M_keeps6_310 : decode b_M_keeps6 310 = .ok (.iaload, 1) := by decide +kernel
theorem d_M_keeps6_311 : decode b_M_keeps6 311 = .ok (.i2l, 1) := by decide +kernel
theorem d_M_keeps6_312 : decode b_M_keeps6 312 = .ok (.aload_n 0, 1) := by decide +kernel
theorem d_M_keeps6_313 : decode b_M_keeps6 313 = .ok (.getfield 7, 3) := by decide +kernel
theorem d_M_keeps6_316 : decode b_M_keeps6 316 = .ok (.iconst 1, 1) := by decide +kernel
theorem d_M_keeps6_317 : decode b_M_keeps6 317 = .ok (.iaload, 1) := by decide +kernel
theorem d_M_keeps6_318 : decode b_M_keeps6 318 = .ok (.i2l, 1) := by decide +kernel
theorem d_M_keeps6_319 : decode b_M_keeps6 319 = .ok (.aload_n 0, 1) := by decide +kernel
theorem d_M_keeps6_320 : decode b_M_keeps6 320 = .ok (.getfield 7, 3) := by decide +kernel
theorem d_M_keeps6_323 : decode b_M_keeps6 323 = .ok (.iconst 4, 1) := by decide +kernel
theorem d_M_keeps6_324 : decode b_M_keeps6 324 = .ok (.iaload, 1) := by decide +kernel
theorem d_M_keeps6_325 : decode b_M_keeps6 325 = .ok (.i2l, 1) := by decide +kernel
theorem d_M_keeps6_326 : decode b_M_keeps6 326 = .ok (.aload_n 0, 1) := by decide +kernel
theorem d_M_keeps6_327 : decode b_M_keeps6 327 = .ok (.getfield 7, 3) := by decide +kernel
theorem d_M_keeps6_330 : decode b_M_keeps6 330 = .ok (.bipush 7, 2) := by decide +kernel
theorem d_M_keeps6_332 : decode b_M_keeps6 332 = .ok (.iaload, 1) := by decide +kernel
theorem d_M_keeps6_333 : decode b_M_keeps6 333 = .ok (.i2l, 1) := by decide +kernel
theorem d_M_keeps6_334 : decode b_M_keeps6 334 = .ok (.invokestatic 87, 3) := by decide +kernel
theorem d_M_keeps6_337 : decode b_M_keeps6 337 = .ok (.aload_n 1, 1) := by decide +kernel
theorem d_M_keeps6_338 : decode b_M_keeps6 338 = .ok (.iload_n 2, 1) := by decide +kernel
theorem d_M_keeps6_339 : decode b_M_keeps6 339 = .ok (.iconst 5, 1) := by decide +kernel
theorem d_M_keeps6_340 : decode b_M_keeps6 340 = .ok (.iadd, 1) := by decide +kernel
theorem d_M_keeps6_341 : decode b_M_keeps6 341 = .ok (.laload, 1) := by decide +kernel
theorem d_M_keeps6_342 : decode b_M_keeps6 342 = .ok (.lcmp, 1) := by decide +kernel
theorem d_M_keeps6_343 : decode b_M_keeps6 343 = .ok (.ifCond .ne 7, 3) := by decide +kernel
theorem d_M_keeps6_346 : decode b_M_keeps6 346 = .ok (.iconst 1, 1) := by decide +kernel
theorem d_M_keeps6_347 : decode b_M_keeps6 347 = .ok (.goto 4, 3) := by decide +kernel
theorem d_M_keeps6_350 : decode b_M_keeps6 350 = .ok (.iconst 0, 1) := by decide +kernel
theorem d_M_keeps6_351 : decode b_M_keeps6 351 = .ok (.ireturn, 1) := by decide +kernel
theorem d_M_exch_0 : decode b_M_exch 0 = .ok (.aload_n 0, 1) := by decide +kernel
theorem d_M_exch_1 : decode b_M_exch 1 = .ok (.getfield 26, 3) := by decide +kernel
theorem d_M_exch_4 : decode b_M_exch 4 = .ok (.iload_n 1, 1) := by decide +kernel
theorem d_M_exch_5 : decode b_M_exch 5 = .ok (.laload, 1) := by decide +kernel
theorem d_M_exch_6 : decode b_M_exch 6 = .ok (.lstore_n 3, 1) := by decide +kernel
theorem d_M_exch_7 : decode b_M_exch 7 = .ok (.aload_n 0, 1) := by decide +kernel
theorem d_M_exch_8 : decode b_M_exch 8 = .ok (.getfield 26, 3) := by decide +kernel
theorem d_M_exch_11 : decode b_M_exch 11 = .ok (.iload_n 1, 1) := by decide +kernel
theorem d_M_exch_12 : decode b_M_exch 12 = .ok (.aload_n 0, 1) := by decide +kernel
theorem d_M_exch_13 : decode b_M_exch 13 = .ok (.getfield 26, 3) := by decide +kernel
theorem d_M_exch_16 : decode b_M_exch 16 = .ok (.iload_n 2, 1) := by decide +kernel
theorem d_M_exch_17 : decode b_M_exch 17 = .ok (.laload, 1) := by decide +kernel
theorem d_M_exch_18 : decode b_M_exch 18 = .ok (.lastore, 1) := by decide +kernel
theorem d_M_exch_19 : decode b_M_exch 19 = .ok (.aload_n 0, 1) := by decide +kernel
theorem d_M_exch_20 : decode b_M_exch 20 = .ok (.getfield 26, 3) := by decide +kernel
theorem d_M_exch_23 : decode b_M_exch 23 = .ok (.iload_n 2, 1) := by decide +kernel
theorem d_M_exch_24 : decode b_M_exch 24 = .ok (.lload_n 3, 1) := by decide +kernel
theorem d_M_exch_25 : decode b_M_exch 25 = .ok (.lastore, 1) := by decide +kernel
theorem d_M_exch_26 : decode b_M_exch 26 = .ok (.return_, 1) := by decide +kernel
theorem d_M_areSame_0 : decode b_M_areSame 0 = .ok (.iconst 0, 1) := by decide +kernel
theorem d_M_areSame_1 : decode b_M_areSame 1 = .ok (.istore_n 3, 1) := by decide +kernel
theorem d_M_areSame_2 : decode b_M_areSame 2 = .ok (.iload_n 3, 1) := by decide +kernel
theorem d_M_areSame_3 : decode b_M_areSame 3 = .ok (.bipush 6, 2) := by decide +kernel
theorem d_M_areSame_5 : decode b_M_areSame 5 = .ok (.if_icmp .ge 37, 3) := by decide +kernel
theorem d_M_areSame_8 : decode b_M_areSame 8 = .ok (.aload_n 0, 1) := by decide +kernel
theorem d_M_areSame_9 : decode b_M_areSame 9 = .ok (.getfield 17, 3) := by decide +kernel
theorem d_M_areSame_12 : decode b_M_areSame 12 = .ok (.bipush 6, 2) := by decide +kernel
theorem d_M_areSame_14 : decode b_M_areSame 14 = .ok (.iload_n 1, 1) := by decide +kernel
theorem d_M_areSame_15 : decode b_M_areSame 15 = .ok (.imul, 1) := by decide +kernel
theorem d_M_areSame_16 : decode b_M_areSame 16 = .ok (.iload_n 3, 1) := by decide +kernel
theorem d_M_areSame_17 : decode b_M_areSame 17 = .ok (.iadd, 1) := by decide +kernel
theorem d_M_areSame_18 : decode b_M_areSame 18 = .ok (.laload, 1) := by decide +kernel
theorem d_M_areSame_19 : decode b_M_areSame 19 = .ok (.aload_n 0, 1) := by decide +kernel
theorem d_M_areSame_20 : decode b_M_areSame 20 = .ok (.getfield 17, 3) := by decide +kernel
theorem d_M_areSame_23 : decode b_M_areSame 23 = .ok (.bipush 6, 2) := by decide +kernel
theorem d_M_areSame_25 : decode b_M_areSame 25 = .ok (.iload_n 2, 1) := by decide +kernel
theorem d_M_areSame_26 : decode b_M_areSame 26 = .ok (.imul, 1) := by decide +kernel
theorem d_M_areSame_27 : decode b_M_areSame 27 = .ok (.iload_n 3, 1) := by decide +kernel
theorem d_M_areSame_28 : decode b_M_areSame 28 = .ok (.iadd, 1) := by decide +kernel
theorem d_M_areSame_29 : decode b_M_areSame 29 = .ok (.laload, 1) := by decide +kernel
theorem d_M_areSame_30 : decode b_M_areSame 30 = .ok (.lcmp, 1) := by decide +kernel
theorem d_M_areSame_31 : decode b_M_areSame 31 = .ok (.ifCond .eq 5, 3) := by decide +kernel
theorem d_M_areSame_34 : decode b_M_areSame 34 = .ok (.iconst 0, 1) := by decide +kernel
theorem d_M_areSame_35 : decode b_M_areSame 35 = .ok (.ireturn, 1) := by decide +kernel
theorem d_M_areSame_36 : decode b_M_areSame 36 = .ok (.iinc 3 1, 3) := by decide +kernel
theorem d_M_areSame_39 : decode b_M_areSame 39 = .ok (.goto (-37), 3) := by decide +kernel
theorem d_M_areSame_42 : decode b_M_areSame 42 = .ok (.iconst 1, 1) := by decide +kernel
theorem d_M_areSame_43 : decode b_M_areSame 43 = .ok (.ireturn, 1) := by decide +kernel
theorem d_M_same_0 : decode b_M_same 0 = .ok (.aload_n 0, 1) := by decide +kernel
theorem d_M_same_1 : decode b_M_same 1 = .ok (.iload_n 1, 1) := by decide +kernel
theorem d_M_same_2 : decode b_M_same 2 = .ok (.invokevirtual 91, 3) := by decide +kernel
theorem d_M_same_5 : decode b_M_same 5 = .ok (.ifCond .ne 5, 3) := by decide +kernel
theorem d_M_same_8 : decode b_M_same 8 = .ok (.iconst (-1), 1) := by decide +kernel
theorem d_M_same_9 : decode b_M_same 9 = .ok (.ireturn, 1) := by decide +kernel
theorem d_M_same_10 : decode b_M_same 10 = .ok (.iconst 0, 1) := by decide +kernel
theorem d_M_same_11 : decode b_M_same 11 = .ok (.istore_n 2, 1) := by decide +kernel
theorem d_M_same_12 : decode b_M_same 12 = .ok (.aload_n 0, 1) := by decide +kernel
theorem d_M_same_13 : decode b_M_same 13 = .ok (.iload_n 2, 1) := by decide +kernel
theorem d_M_same_14 : decode b_M_same 14 = .ok (.iload_n 1, 1) := by decide +kernel
theorem d_M_same_15 : decode b_M_same 15 = .ok (.invokevirtual 95, 3) := by decide +kernel
theorem d_M_same_18 : decode b_M_same 18 = .ok (.ifCond .ne 9, 3) := by decide +kernel
theorem d_M_same_21 : decode b_M_same 21 = .ok (.iinc 2 1, 3) := by decide +kernel
theorem d_M_same_24 : decode b_M_same 24 = .ok (.goto (-12), 3) := by decide +kernel
theorem d_M_same_27 : decode b_M_same 27 = .ok (.iload_n 2, 1) := by decide +kernel
theorem d_M_same_28 : decode b_M_same 28 = .ok (.ireturn, 1) := by decide +kernel
theorem d_M_reduced_0 : decode b_M_reduced 0 = .ok (.aload_n 0, 1) := by decide +kernel
theorem d_M_reduced_1 : decode b_M_reduced 1 = .ok (.iload_n 1, 1) := by decide +kernel
theorem d_M_reduced_2 : decode b_M_reduced 2 = .ok (.invokevirtual 91, 3) := by decide +kernel
theorem d_M_reduced_5 : decode b_M_reduced 5 = .ok (.ifCond .eq 13, 3) := by decide +kernel
theorem d_M_reduced_8 : decode b_M_reduced 8 = .ok (.iload_n 2, 1) := by decide +kernel
theorem d_M_reduced_9 : decode b_M_reduced 9 = .ok (.ifCond .lt 9, 3) := by decide +kernel
theorem d_M_reduced_12 : decode b_M_reduced 12 = .ok (.iload_n 2, 1) := by decide +kernel
theorem d_M_reduced_13 : decode b_M_reduced 13 = .ok (.bipush 8, 2) := by decide +kernel
theorem d_M_reduced_15 : decode b_M_reduced 15 = .ok (.if_icmp .le 5, 3) := by decide +kernel
theorem d_M_reduced_18 : decode b_M_reduced 18 = .ok (.lconst 0, 1) := by decide +kernel
theorem d_M_reduced_19 : decode b_M_reduced 19 = .ok (.lreturn, 1) := by decide +kernel
theorem d_M_reduced_20 : decode b_M_reduced 20 = .ok (.iload_n 2, 1) := by decide +kernel
theorem d_M_reduced_21 : decode b_M_reduced 21 = .ok (.bipush 6, 2) := by decide +kernel
theorem d_M_reduced_23 : decode b_M_reduced 23 = .ok (.if_icmp .ge 17, 3) := by decide +kernel
theorem d_M_reduced_26 : decode b_M_reduced 26 = .ok (.aload_n 0, 1) := by decide +kernel
theorem d_M_reduced_27 : decode b_M_reduced 27 = .ok (.getfield 17, 3) := by decide +kernel
theorem d_M_reduced_30 : decode b_M_reduced 30 = .ok (.bipush 6, 2) := by decide +kernel
theorem d_M_reduced_32 : decode b_M_reduced 32 = .ok (.iload_n 1, 1) := by decide +kernel
theorem d_M_reduced_33 : decode b_M_reduced 33 = .ok (.imul, 1) := by decide +kernel
theorem d_M_reduced_34 : decode b_M_reduced 34 = .ok (.iload_n 2, 1) := by decide +kernel
theorem d_M_reduced_35 : decode b_M_reduced 35 = .ok (.iadd, 1) := by decide +kernel
theorem d_M_reduced_36 : decode b_M_reduced 36 = .ok (.laload, 1) := by decide +kernel
theorem d_M_reduced_37 : decode b_M_reduced 37 = .ok (.goto 46, 3) := by decide +kernel
theorem d_M_reduced_40 : decode b_M_reduced 40 = .ok (.iload_n 2, 1) := by decide +kernel
theorem d_M_reduced_41 : decode b_M_reduced 41 = .ok (.bipush 6, 2) := by decide +kernel
theorem d_M_reduced_43 : decode b_M_reduced 43 = .ok (.if_icmp .ne 13, 3) := by decide +kernel
theorem d_M_reduced_46 : decode b_M_reduced 46 = .ok (.aload_n 0, 1) := by decide +kernel
theorem d_M_reduced_47 : decode b_M_reduced 47 = .ok (.getfield 20, 3) := by decide +kernel
theorem d_M_reduced_50 : decode b_M_reduced 50 = .ok (.iload_n 1, 1) := by decide +kernel
theorem d_M_reduced_51 : decode b_M_reduced 51 = .ok (.iaload, 1) := by decide +kernel
theorem d_M_reduced_52 : decode b_M_reduced 52 = .ok (.i2l, 1) := by decide +kernel
theorem d_M_reduced_53 : decode b_M_reduced 53 = .ok (.goto 30, 3) := by decide +kernel
theorem d_M_reduced_56 : decode b_M_reduced 56 = .ok (.iload_n 2, 1) := by decide +kernel
theorem d_M_reduced_57 : decode b_M_reduced 57 = .ok (.bipush 7, 2) := by decide +kernel
theorem d_M_reduced_59 : decode b_M_reduced 59 = .ok (.if_icmp .ne 17, 3) := by decide +kernel
theorem d_M_reduced_62 : decode b_M_reduced 62 = .ok (.aload_n 0, 1) := by decide +kernel
theorem d_M_reduced_63 : decode b_M_reduced 63 = .ok (.getfield 17, 3) := by decide +kernel
theorem d_M_reduced_66 : decode b_M_reduced 66 = .ok (.bipush 6, 2) := by decide +kernel
theorem d_M_reduced_68 : decode b_M_reduced 68 = .ok (.iload_n 1, 1) := by decide +kernel
theorem d_M_reduced_69 : decode b_M_reduced 69 = .ok (.imul, 1) := by decide +kernel
theorem d_M_reduced_70 : decode b_M_reduced 70 = .ok (.invokestatic 53, 3) := by decide +kernel
theorem d_M_reduced_73 : decode b_M_reduced 73 = .ok (.goto 10, 3) := by decide +kernel
theorem d_M_reduced_76 : decode b_M_reduced 76 = .ok (.aload_n 0, 1) := by decide +kernel
theorem d_M_reduced_77 : decode b_M_reduced 77 = .ok (.getfield 23, 3) := by decide +kernel
theorem d_M_reduced_80 : decode b_M_reduced 80 = .ok (.iload_n 1, 1) := by decide +kernel
theorem d_M_reduced_81 : decode b_M_reduced 81 = .ok (.iaload, 1) := by decide +kernel
theorem d_M_reduced_82 : decode b_M_reduced 82 = .ok (.i2l, 1) := by decide +kernel
theorem d_M_reduced_83 : decode b_M_reduced 83 = .ok (.lreturn, 1) := by decide +kernel
theorem d_M_step_0 : decode b_M_step 0 = .ok (.aload_n 0, 1) := by decide +kernel
theorem d_M_step_1 : decode b_M_step 1 = .ok (.iload_n 1, 1) := by decide +kernel
theorem d_M_step_2 : decode b_M_step 2 = .ok (.invokevirtual 91, 3) := by decide +kernel
theorem d_M_step_5 : decode b_M_step 5 = .ok (.ifCond .eq 46, 3) := by decide +kernel
theorem d_M_step_8 : decode b_M_step 8 = .ok (.iload_n 2, 1) := by decide +kernel
theorem d_M_step_9 : decode b_M_step 9 = .ok (.i2l, 1) := by decide +kernel
theorem d_M_step_10 : decode b_M_step 10 = .ok (.ldc2_w 119, 3) := by decide +kernel
theorem d_M_step_13 : decode b_M_step 13 = .ok (.ldc2_w 121, 3) := by decide +kernel
theorem d_M_step_16 : decode b_M_step 16 = .ok (.invokestatic 47, 3) := by decide +kernel
theorem d_M_step_19 : decode b_M_step 19 = .ok (.ifCond .eq 32, 3) := by decide +kernel
theorem d_M_step_22 : decode b_M_step 22 = .ok (.iload_n 3, 1) := by decide +kernel
theorem d_M_step_23 : decode b_M_step 23 = .ok (.i2l, 1) := by decide +kernel
theorem d_M_step_24 : decode b_M_step 24 = .ok (.ldc2_w 119, 3) := by decide +kernel
theorem d_M_step_27 : decode b_M_step 27 = .ok (.ldc2_w 121, 3) := by decide +kernel
theorem d_M_step_30 : decode b_M_step 30 = .ok (.invokestatic 47, 3) := by decide +kernel
theorem d_M_step_33 : decode b_M_step 33 = .ok (.ifCond .eq 18, 3) := by decide +kernel
theorem d_M_step_36 : decode b_M_step 36 = .ok (.iload 4, 2) := by decide +kernel
theorem d_M_step_38 : decode b_M_step 38 = .ok (.i2l, 1) := by decide +kernel
theorem d_M_step_39 : decode b_M_step 39 = .ok (.ldc2_w 119, 3) := by decide +kernel
theorem d_M_step_42 : decode b_M_step 42 = .ok (.ldc2_w 121, 3) := by decide +kernel
theorem d_M_step_45 : decode b_M_step 45 = .ok (.invokestatic 47, 3) := by decide +kernel
theorem d_M_step_48 : decode b_M_step 48 = .ok (.ifCond .ne 5, 3) := by decide +kernel
theorem d_M_step_51 : decode b_M_step 51 = .ok (.lconst 0, 1) := by decide +kernel
theorem d_M_step_52 : decode b_M_step 52 = .ok (.lreturn, 1) := by decide +kernel
theorem d_M_step_53 : decode b_M_step 53 = .ok (.aload_n 0, 1) := by decide +kernel
theorem d_M_step_54 : decode b_M_step 54 = .ok (.getfield 13, 3) := by decide +kernel
theorem d_M_step_57 : decode b_M_step 57 = .ok (.bipush 6, 2) := by decide +kernel
theorem d_M_step_59 : decode b_M_step 59 = .ok (.iload_n 1, 1) := by decide +kernel
theorem d_M_step_60 : decode b_M_step 60 = .ok (.imul, 1) := by decide +kernel
theorem d_M_step_61 : decode b_M_step 61 = .ok (.iload_n 2, 1) := by decide +kernel
theorem d_M_step_62 : decode b_M_step 62 = .ok (.i2l, 1) := by decide +kernel
theorem d_M_step_63 : decode b_M_step 63 = .ok (.iload_n 3, 1) := by decide +kernel
theorem d_M_step_64 : decode b_M_step 64 = .ok (.i2l, 1) := by decide +kernel
theorem d_M_step_65 : decode b_M_step 65 = .ok (.iload 4, 2) := by decide +kernel
theorem d_M_step_67 : decode b_M_step 67 = .ok (.i2l, 1) := by decide +kernel
theorem d_M_step_68 : decode b_M_step 68 = .ok (.iload_n 2, 1) := by decide +kernel
theorem d_M_step_69 : decode b_M_step 69 = .ok (.i2l, 1) := by decide +kernel
theorem d_M_step_70 : decode b_M_step 70 = .ok (.iload_n 3, 1) := by decide +kernel
theorem d_M_step_71 : decode b_M_step 71 = .ok (.i2l, 1) := by decide +kernel
theorem d_M_step_72 : decode b_M_step 72 = .ok (.iload 4, 2) := by decide +kernel
theorem d_M_step_74 : decode b_M_step 74 = .ok (.i2l, 1) := by decide +kernel
theorem d_M_step_75 : decode b_M_step 75 = .ok (.invokestatic 87, 3) := by decide +kernel
theorem d_M_step_78 : decode b_M_step 78 = .ok (.lreturn, 1) := by decide +kernel
theorem d_M_comp_0 : decode b_M_comp 0 = .ok (.iconst 0, 1) := by decide +kernel
theorem d_M_comp_1 : decode b_M_comp 1 = .ok (.istore_n 2, 1) := by decide +kernel
theorem d_M_comp_2 : decode b_M_comp 2 = .ok (.iload_n 2, 1) := by decide +kernel
theorem d_M_comp_3 : decode b_M_comp 3 = .ok (.bipush 6, 2) := by decide +kernel
theorem d_M_comp_5 : decode b_M_comp 5 = .ok (.if_icmp .ge 57, 3) := by decide +kernel
theorem d_M_comp_8 : decode b_M_comp 8 = .ok (.aload_n 0, 1) := by decide +kernel
theorem d_M_comp_9 : decode b_M_comp 9 = .ok (.getfield 26, 3) := by decide +kernel
theorem d_M_comp_12 : decode b_M_comp 12 = .ok (.iload_n 2, 1) := by decide +kernel
theorem d_M_comp_13 : decode b_M_comp 13 = .ok (.laload, 1) := by decide +kernel
theorem d_M_comp_14 : decode b_M_comp 14 = .ok (.aload_n 0, 1) := by decide +kernel
theorem d_M_comp_15 : decode b_M_comp 15 = .ok (.getfield 29, 3) := by decide +kernel
theorem d_M_comp_18 : decode b_M_comp 18 = .ok (.bipush 6, 2) := by decide +kernel
theorem d_M_comp_20 : decode b_M_comp 20 = .ok (.iload_n 1, 1) := by decide +kernel
theorem d_M_comp_21 : decode b_M_comp 21 = .ok (.imul, 1) := by decide +kernel
theorem d_M_comp_22 : decode b_M_comp 22 = .ok (.iload_n 2, 1) := by decide +kernel
theorem d_M_comp_23 : decode b_M_comp 23 = .ok (.iadd, 1) := by decide +kernel
theorem d_M_comp_24 : decode b_M_comp 24 = .ok (.laload, 1) := by decide +kernel
theorem d_M_comp_25 : decode b_M_comp 25 = .ok (.lcmp, 1) := by decide +kernel
theorem d_M_comp_26 : decode b_M_comp 26 = .ok (.ifCond .eq 30, 3) := by decide +kernel
theorem d_M_comp_29 : decode b_M_comp 29 = .ok (.aload_n 0, 1) := by decide +kernel
theorem d_M_comp_30 : decode b_M_comp 30 = .ok (.getfield 26, 3) := by decide +kernel
theorem d_M_comp_33 : decode b_M_comp 33 = .ok (.iload_n 2, 1) := by decide +kernel
theorem d_M_comp_34 : decode b_M_comp 34 = .ok (.laload, 1) := by decide +kernel
theorem d_M_comp_35 : decode b_M_comp 35 = .ok (.aload_n 0, 1) := by decide +kernel
theorem d_M_comp_36 : decode b_M_comp 36 = .ok (.getfield 29, 3) := by decide +kernel
theorem d_M_comp_39 : decode b_M_comp 39 = .ok (.bipush 6, 2) := by decide +kernel
theorem d_M_comp_41 : decode b_M_comp 41 = .ok (.iload_n 1, 1) := by decide +kernel
theorem d_M_comp_42 : decode b_M_comp 42 = .ok (.imul, 1) := by decide +kernel
theorem d_M_comp_43 : decode b_M_comp 43 = .ok (.iload_n 2, 1) := by decide +kernel
theorem d_M_comp_44 : decode b_M_comp 44 = .ok (.iadd, 1) := by decide +kernel
theorem d_M_comp_45 : decode b_M_comp 45 = .ok (.laload, 1) := by decide +kernel
theorem d_M_comp_46 : decode b_M_comp 46 = .ok (.lcmp, 1) := by decide +kernel
theorem d_M_comp_47 : decode b_M_comp 47 = .ok (.ifCond .ge 7, 3) := by decide +kernel
theorem d_M_comp_50 : decode b_M_comp 50 = .ok (.iconst (-1), 1) := by decide +kernel
theorem d_M_comp_51 : decode b_M_comp 51 = .ok (.goto 4, 3) := by decide +kernel
theorem d_M_comp_54 : decode b_M_comp 54 = .ok (.iconst 1, 1) := by decide +kernel
theorem d_M_comp_55 : decode b_M_comp 55 = .ok (.ireturn, 1) := by decide +kernel
theorem d_M_comp_56 : decode b_M_comp 56 = .ok (.iinc 2 1, 3) := by decide +kernel
theorem d_M_comp_59 : decode b_M_comp 59 = .ok (.goto (-57), 3) := by decide +kernel
theorem d_M_comp_62 : decode b_M_comp 62 = .ok (.iconst 0, 1) := by decide +kernel
theorem d_M_comp_63 : decode b_M_comp 63 = .ok (.ireturn, 1) := by decide +kernel
