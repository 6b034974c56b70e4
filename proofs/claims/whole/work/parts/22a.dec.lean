theorem d_M_shorter_0 : decode b_M_shorter 0 = .ok (.aload_n 0, 1) := by decide +kernel
theorem d_M_shorter_1 : decode b_M_shorter 1 = .ok (.iload_n 1, 1) := by decide +kernel
theorem d_M_shorter_2 : decode b_M_shorter 2 = .ok (.invokevirtual 91, 3) := by decide +kernel
theorem d_M_shorter_5 : decode b_M_shorter 5 = .ok (.ifCond .ne 5, 3) := by decide +kernel
theorem d_M_shorter_8 : decode b_M_shorter 8 = .ok (.iconst (-1), 1) := by decide +kernel
theorem d_M_shorter_9 : decode b_M_shorter 9 = .ok (.ireturn, 1) := by decide +kernel
theorem d_M_shorter_10 : decode b_M_shorter 10 = .ok (.iconst 0, 1) := by decide +kernel
theorem d_M_shorter_11 : decode b_M_shorter 11 = .ok (.istore 4, 2) := by decide +kernel
theorem d_M_shorter_13 : decode b_M_shorter 13 = .ok (.bipush (-4), 2) := by decide +kernel
theorem d_M_shorter_15 : decode b_M_shorter 15 = .ok (.istore 5, 2) := by decide +kernel
theorem d_M_shorter_17 : decode b_M_shorter 17 = .ok (.iload 5, 2) := by decide +kernel
theorem d_M_shorter_19 : decode b_M_shorter 19 = .ok (.iconst 4, 1) := by decide +kernel
theorem d_M_shorter_20 : decode b_M_shorter 20 = .ok (.if_icmp .gt 103, 3) := by decide +kernel
theorem d_M_shorter_23 : decode b_M_shorter 23 = .ok (.bipush (-4), 2) := by decide +kernel
theorem d_M_shorter_25 : decode b_M_shorter 25 = .ok (.istore 6, 2) := by decide +kernel
theorem d_M_shorter_27 : decode b_M_shorter 27 = .ok (.iload 6, 2) := by decide +kernel
theorem d_M_shorter_29 : decode b_M_shorter 29 = .ok (.iconst 4, 1) := by decide +kernel
theorem d_M_shorter_30 : decode b_M_shorter 30 = .ok (.if_icmp .gt 87, 3) := by decide +kernel
theorem d_M_shorter_33 : decode b_M_shorter 33 = .ok (.bipush (-4), 2) := by decide +kernel
theorem d_M_shorter_35 : decode b_M_shorter 35 = .ok (.istore 7, 2) := by decide +kernel
theorem d_M_shorter_37 : decode b_M_shorter 37 = .ok (.iload 7, 2) := by decide +kernel
theorem d_M_shorter_39 : decode b_M_shorter 39 = .ok (.iconst 4, 1) := by decide +kernel
theorem d_M_shorter_40 : decode b_M_shorter 40 = .ok (.if_icmp .gt 71, 3) := by decide +kernel
theorem d_M_shorter_43 : decode b_M_shorter 43 = .ok (.iload 5, 2) := by decide +kernel
theorem d_M_shorter_45 : decode b_M_shorter 45 = .ok (.ifCond .ne 16, 3) := by decide +kernel
theorem d_M_shorter_48 : decode b_M_shorter 48 = .ok (.iload 6, 2) := by decide +kernel
theorem d_M_shorter_50 : decode b_M_shorter 50 = .ok (.ifCond .ne 11, 3) := by decide +kernel
theorem d_M_shorter_53 : decode b_M_shorter 53 = .ok (.iload 7, 2) := by decide +kernel
theorem d_M_shorter_55 : decode b_M_shorter 55 = .ok (.ifCond .ne 6, 3) := by decide +kernel
theorem d_M_shorter_58 : decode b_M_shorter 58 = .ok (.goto 47, 3) := by decide +kernel
theorem d_M_shorter_61 : decode b_M_shorter 61 = .ok (.iload 4, 2) := by decide +kernel
theorem d_M_shorter_63 : decode b_M_shorter 63 = .ok (.aload_n 0, 1) := by decide +kernel
theorem d_M_shorter_64 : decode b_M_shorter 64 = .ok (.getfield 13, 3) := by decide +kernel
theorem d_M_shorter_67 : decode b_M_shorter 67 = .ok (.bipush 6, 2) := by decide +kernel
theorem d_M_shorter_69 : decode b_M_shorter 69 = .ok (.iload_n 1, 1) := by decide +kernel
theorem d_M_shorter_70 : decode b_M_shorter 70 = .ok (.imul, 1) := by decide +kernel
theorem d_M_shorter_71 : decode b_M_shorter 71 = .ok (.iload 5, 2) := by decide +kernel
theorem d_M_shorter_73 : decode b_M_shorter 73 = .ok (.i2l, 1) := by decide +kernel
theorem d_M_shorter_74 : decode b_M_shorter 74 = .ok (.iload 6, 2) := by decide +kernel
theorem d_M_shorter_76 : decode b_M_shorter 76 = .ok (.i2l, 1) := by decide +kernel
theorem d_M_shorter_77 : decode b_M_shorter 77 = .ok (.iload 7, 2) := by decide +kernel
theorem d_M_shorter_79 : decode b_M_shorter 79 = .ok (.i2l, 1) := by decide +kernel
theorem d_M_shorter_80 : decode b_M_shorter 80 = .ok (.iload 5, 2) := by decide +kernel
theorem d_M_shorter_82 : decode b_M_shorter 82 = .ok (.i2l, 1) := by decide +kernel
theorem d_M_shorter_83 : decode b_M_shorter 83 = .ok (.iload 6, 2) := by decide +kernel
theorem d_M_shorter_85 : decode b_M_shorter 85 = .ok (.i2l, 1) := by decide +kernel
theorem d_M_shorter_86 : decode b_M_shorter 86 = .ok (.iload 7, 2) := by decide +kernel
theorem d_M_shorter_88 : decode b_M_shorter 88 = .ok (.i2l, 1) := by decide +kernel
theorem d_M_shorter_89 : decode b_M_shorter 89 = .ok (.invokestatic 87, 3) := by decide +kernel
theorem d_M_shorter_92 : decode b_M_shorter 92 = .ok (.lload_n 2, 1) := by decide +kernel
theorem d_M_shorter_93 : decode b_M_shorter 93 = .ok (.lcmp, 1) := by decide +kernel
theorem d_M_shorter_94 : decode b_M_shorter 94 = .ok (.ifCond .gt 7, 3) := by decide +kernel
theorem d_M_shorter_97 : decode b_M_shorter 97 = .ok (.iconst 1, 1) := by decide +kernel
theorem d_M_shorter_98 : decode b_M_shorter 98 = .ok (.goto 4, 3) := by decide +kernel
theorem d_M_shorter_101 : decode b_M_shorter 101 = .ok (.iconst 0, 1) := by decide +kernel
theorem d_M_shorter_102 : decode b_M_shorter 102 = .ok (.iadd, 1) := by decide +kernel
theorem d_M_shorter_103 : decode b_M_shorter 103 = .ok (.istore 4, 2) := by decide +kernel
theorem d_M_shorter_105 : decode b_M_shorter 105 = .ok (.iinc 7 1, 3) := by decide +kernel
theorem d_M_shorter_108 : decode b_M_shorter 108 = .ok (.goto (-71), 3) := by decide +kernel
theorem d_M_shorter_111 : decode b_M_shorter 111 = .ok (.iinc 6 1, 3) := by decide +kernel
theorem d_M_shorter_114 : decode b_M_shorter 114 = .ok (.goto (-87), 3) := by decide +kernel
theorem d_M_shorter_117 : decode b_M_shorter 117 = .ok (.iinc 5 1, 3) := by decide +kernel
theorem d_M_shorter_120 : decode b_M_shorter 120 = .ok (.goto (-103), 3) := by decide +kernel
theorem d_M_shorter_123 : decode b_M_shorter 123 = .ok (.iload 4, 2) := by decide +kernel
theorem d_M_shorter_125 : decode b_M_shorter 125 = .ok (.ireturn, 1) := by decide +kernel
theorem d_M_keeps_0 : decode b_M_keeps 0 = .ok (.aload_n 0, 1) := by decide +kernel
theorem d_M_keeps_1 : decode b_M_keeps 1 = .ok (.iload_n 1, 1) := by decide +kernel
theorem d_M_keeps_2 : decode b_M_keeps 2 = .ok (.invokevirtual 91, 3) := by decide +kernel
theorem d_M_keeps_5 : decode b_M_keeps 5 = .ok (.ifCond .eq 14, 3) := by decide +kernel
theorem d_M_keeps_8 : decode b_M_keeps 8 = .ok (.iload_n 2, 1) := by decide +kernel
theorem d_M_keeps_9 : decode b_M_keeps 9 = .ok (.ifCond .lt 10, 3) := by decide +kernel
theorem d_M_keeps_12 : decode b_M_keeps 12 = .ok (.iload_n 2, 1) := by decide +kernel
theorem d_M_keeps_13 : decode b_M_keeps 13 = .ok (.sipush 19683, 3) := by decide +kernel
theorem d_M_keeps_16 : decode b_M_keeps 16 = .ok (.if_icmp .lt 5, 3) := by decide +kernel
theorem d_M_keeps_19 : decode b_M_keeps 19 = .ok (.iconst 0, 1) := by decide +kernel
theorem d_M_keeps_20 : decode b_M_keeps 20 = .ok (.ireturn, 1) := by decide +kernel
theorem d_M_keeps_21 : decode b_M_keeps 21 = .ok (.aload_n 0, 1) := by decide +kernel
theorem d_M_keeps_22 : decode b_M_keeps 22 = .ok (.iload_n 2, 1) := by decide +kernel
theorem d_M_keeps_23 : decode b_M_keeps 23 = .ok (.invokevirtual 63, 3) := by decide +kernel
theorem d_M_keeps_26 : decode b_M_keeps 26 = .ok (.aload_n 0, 1) := by decide +kernel
theorem d_M_keeps_27 : decode b_M_keeps 27 = .ok (.aload_n 0, 1) := by decide +kernel
theorem d_M_keeps_28 : decode b_M_keeps 28 = .ok (.getfield 13, 3) := by decide +kernel
theorem d_M_keeps_31 : decode b_M_keeps 31 = .ok (.bipush 6, 2) := by decide +kernel
theorem d_M_keeps_33 : decode b_M_keeps 33 = .ok (.iload_n 1, 1) := by decide +kernel
theorem d_M_keeps_34 : decode b_M_keeps 34 = .ok (.imul, 1) := by decide +kernel
theorem d_M_keeps_35 : decode b_M_keeps 35 = .ok (.invokevirtual 67, 3) := by decide +kernel
theorem d_M_keeps_38 : decode b_M_keeps 38 = .ok (.ireturn, 1) := by decide +kernel
theorem d_M_init_0 : decode b_M_init 0 = .ok (.aload_n 0, 1) := by decide +kernel
theorem d_M_init_1 : decode b_M_init 1 = .ok (.invokespecial 1, 3) := by decide +kernel
theorem d_M_init_4 : decode b_M_init 4 = .ok (.aload_n 0, 1) := by decide +kernel
theorem d_M_init_5 : decode b_M_init 5 = .ok (.bipush 9, 2) := by decide +kernel
theorem d_M_init_7 : decode b_M_init 7 = .ok (.newarray .int, 2) := by decide +kernel
theorem d_M_init_9 : decode b_M_init 9 = .ok (.putfield 7, 3) := by decide +kernel
theorem d_M_init_12 : decode b_M_init 12 = .ok (.aload_n 0, 1) := by decide +kernel
theorem d_M_init_13 : decode b_M_init 13 = .ok (.sipush 240, 3) := by decide +kernel
theorem d_M_init_16 : decode b_M_init 16 = .ok (.newarray .long, 2) := by decide +kernel
theorem d_M_init_18 : decode b_M_init 18 = .ok (.putfield 13, 3) := by decide +kernel
theorem d_M_init_21 : decode b_M_init 21 = .ok (.aload_n 0, 1) := by decide +kernel
theorem d_M_init_22 : decode b_M_init 22 = .ok (.sipush 240, 3) := by decide +kernel
theorem d_M_init_25 : decode b_M_init 25 = .ok (.newarray .long, 2) := by decide +kernel
theorem d_M_init_27 : decode b_M_init 27 = .ok (.putfield 17, 3) := by decide +kernel
theorem d_M_init_30 : decode b_M_init 30 = .ok (.aload_n 0, 1) := by decide +kernel
theorem d_M_init_31 : decode b_M_init 31 = .ok (.bipush 40, 2) := by decide +kernel
theorem d_M_init_33 : decode b_M_init 33 = .ok (.newarray .int, 2) := by decide +kernel
theorem d_M_init_35 : decode b_M_init 35 = .ok (.putfield 20, 3) := by decide +kernel
theorem d_M_init_38 : decode b_M_init 38 = .ok (.aload_n 0, 1) := by decide +kernel
theorem d_M_init_39 : decode b_M_init 39 = .ok (.bipush 40, 2) := by decide +kernel
theorem d_M_init_41 : decode b_M_init 41 = .ok (.newarray .int, 2) := by decide +kernel
theorem d_M_init_43 : decode b_M_init 43 = .ok (.putfield 23, 3) := by decide +kernel
theorem d_M_init_46 : decode b_M_init 46 = .ok (.aload_n 0, 1) := by decide +kernel
theorem d_M_init_47 : decode b_M_init 47 = .ok (.bipush 6, 2) := by decide +kernel
theorem d_M_init_49 : decode b_M_init 49 = .ok (.newarray .long, 2) := by decide +kernel
theorem d_M_init_51 : decode b_M_init 51 = .ok (.putfield 26, 3) := by decide +kernel
theorem d_M_init_54 : decode b_M_init 54 = .ok (.aload_n 0, 1) := by decide +kernel
theorem d_M_init_55 : decode b_M_init 55 = .ok (.sipush 3000, 3) := by decide +kernel
theorem d_M_init_58 : decode b_M_init 58 = .ok (.newarray .long, 2) := by decide +kernel
theorem d_M_init_60 : decode b_M_init 60 = .ok (.putfield 29, 3) := by decide +kernel
theorem d_M_init_63 : decode b_M_init 63 = .ok (.aload_n 0, 1) := by decide +kernel
theorem d_M_init_64 : decode b_M_init 64 = .ok (.sipush 500, 3) := by decide +kernel
theorem d_M_init_67 : decode b_M_init 67 = .ok (.newarray .int, 2) := by decide +kernel
theorem d_M_init_69 : decode b_M_init 69 = .ok (.putfield 32, 3) := by decide +kernel
theorem d_M_init_72 : decode b_M_init 72 = .ok (.aload_n 0, 1) := by decide +kernel
theorem d_M_init_73 : decode b_M_init 73 = .ok (.iconst (-1), 1) := by decide +kernel
theorem d_M_init_74 : decode b_M_init 74 = .ok (.putfield 35, 3) := by decide +kernel
theorem d_M_init_77 : decode b_M_init 77 = .ok (.aload_n 0, 1) := by decide +kernel
theorem d_M_init_78 : decode b_M_init 78 = .ok (.sipush 3000, 3) := by decide +kernel
theorem d_M_init_81 : decode b_M_init 81 = .ok (.newarray .long, 2) := by decide +kernel
theorem d_M_init_83 : decode b_M_init 83 = .ok (.putfield 39, 3) := by decide +kernel
theorem d_M_init_86 : decode b_M_init 86 = .ok (.return_, 1) := by decide +kernel
