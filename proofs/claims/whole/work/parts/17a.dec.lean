theorem d_B_reduced_0 : decode b_B_reduced 0 = .ok (.aload_n 0, 1) := by decide +kernel
theorem d_B_reduced_1 : decode b_B_reduced 1 = .ok (.iload_n 1, 1) := by decide +kernel
theorem d_B_reduced_2 : decode b_B_reduced 2 = .ok (.invokevirtual 72, 3) := by decide +kernel
theorem d_B_reduced_5 : decode b_B_reduced 5 = .ok (.astore_n 3, 1) := by decide +kernel
theorem d_B_reduced_6 : decode b_B_reduced 6 = .ok (.aload_n 3, 1) := by decide +kernel
theorem d_B_reduced_7 : decode b_B_reduced 7 = .ok (.ifnonnull 5, 3) := by decide +kernel
theorem d_B_reduced_10 : decode b_B_reduced 10 = .ok (.lconst 0, 1) := by decide +kernel
theorem d_B_reduced_11 : decode b_B_reduced 11 = .ok (.lreturn, 1) := by decide +kernel
theorem d_B_reduced_12 : decode b_B_reduced 12 = .ok (.iload_n 2, 1) := by decide +kernel
theorem d_B_reduced_13 : decode b_B_reduced 13 = .ok (.tableswitch 47 6 8 #[27, 33, 41], 27) := by decide +kernel
theorem d_B_reduced_40 : decode b_B_reduced 40 = .ok (.aload_n 3, 1) := by decide +kernel
theorem d_B_reduced_41 : decode b_B_reduced 41 = .ok (.getfield 76, 3) := by decide +kernel
theorem d_B_reduced_44 : decode b_B_reduced 44 = .ok (.i2l, 1) := by decide +kernel
theorem d_B_reduced_45 : decode b_B_reduced 45 = .ok (.lreturn, 1) := by decide +kernel
theorem d_B_reduced_46 : decode b_B_reduced 46 = .ok (.aload_n 3, 1) := by decide +kernel
theorem d_B_reduced_47 : decode b_B_reduced 47 = .ok (.getfield 79, 3) := by decide +kernel
theorem d_B_reduced_50 : decode b_B_reduced 50 = .ok (.invokevirtual 83, 3) := by decide +kernel
theorem d_B_reduced_53 : decode b_B_reduced 53 = .ok (.lreturn, 1) := by decide +kernel
theorem d_B_reduced_54 : decode b_B_reduced 54 = .ok (.aload_n 3, 1) := by decide +kernel
theorem d_B_reduced_55 : decode b_B_reduced 55 = .ok (.getfield 87, 3) := by decide +kernel
theorem d_B_reduced_58 : decode b_B_reduced 58 = .ok (.i2l, 1) := by decide +kernel
theorem d_B_reduced_59 : decode b_B_reduced 59 = .ok (.lreturn, 1) := by decide +kernel
theorem d_B_reduced_60 : decode b_B_reduced 60 = .ok (.aload_n 3, 1) := by decide +kernel
theorem d_B_reduced_61 : decode b_B_reduced 61 = .ok (.getfield 79, 3) := by decide +kernel
theorem d_B_reduced_64 : decode b_B_reduced 64 = .ok (.iload_n 2, 1) := by decide +kernel
theorem d_B_reduced_65 : decode b_B_reduced 65 = .ok (.invokevirtual 89, 3) := by decide +kernel
theorem d_B_reduced_68 : decode b_B_reduced 68 = .ok (.lreturn, 1) := by decide +kernel
theorem d_B_keeps_0 : decode b_B_keeps 0 = .ok (.aload_n 0, 1) := by decide +kernel
theorem d_B_keeps_1 : decode b_B_keeps 1 = .ok (.iload_n 1, 1) := by decide +kernel
theorem d_B_keeps_2 : decode b_B_keeps 2 = .ok (.invokevirtual 72, 3) := by decide +kernel
theorem d_B_keeps_5 : decode b_B_keeps 5 = .ok (.astore_n 3, 1) := by decide +kernel
theorem d_B_keeps_6 : decode b_B_keeps 6 = .ok (.aload_n 3, 1) := by decide +kernel
theorem d_B_keeps_7 : decode b_B_keeps 7 = .ok (.ifnull 14, 3) := by decide +kernel
theorem d_B_keeps_10 : decode b_B_keeps 10 = .ok (.iload_n 2, 1) := by decide +kernel
theorem d_B_keeps_11 : decode b_B_keeps 11 = .ok (.ifCond .lt 10, 3) := by decide +kernel
theorem d_B_keeps_14 : decode b_B_keeps 14 = .ok (.iload_n 2, 1) := by decide +kernel
theorem d_B_keeps_15 : decode b_B_keeps 15 = .ok (.sipush 19683, 3) := by decide +kernel
theorem d_B_keeps_18 : decode b_B_keeps 18 = .ok (.if_icmp .lt 5, 3) := by decide +kernel
theorem d_B_keeps_21 : decode b_B_keeps 21 = .ok (.iconst 0, 1) := by decide +kernel
theorem d_B_keeps_22 : decode b_B_keeps 22 = .ok (.ireturn, 1) := by decide +kernel
theorem d_B_keeps_23 : decode b_B_keeps 23 = .ok (.aload_n 3, 1) := by decide +kernel
theorem d_B_keeps_24 : decode b_B_keeps 24 = .ok (.getfield 93, 3) := by decide +kernel
theorem d_B_keeps_27 : decode b_B_keeps 27 = .ok (.iload_n 2, 1) := by decide +kernel
theorem d_B_keeps_28 : decode b_B_keeps 28 = .ok (.bipush 9, 2) := by decide +kernel
theorem d_B_keeps_30 : decode b_B_keeps 30 = .ok (.idiv, 1) := by decide +kernel
theorem d_B_keeps_31 : decode b_B_keeps 31 = .ok (.invokestatic 96, 3) := by decide +kernel
theorem d_B_keeps_34 : decode b_B_keeps 34 = .ok (.iload_n 2, 1) := by decide +kernel
theorem d_B_keeps_35 : decode b_B_keeps 35 = .ok (.iconst 3, 1) := by decide +kernel
theorem d_B_keeps_36 : decode b_B_keeps 36 = .ok (.idiv, 1) := by decide +kernel
theorem d_B_keeps_37 : decode b_B_keeps 37 = .ok (.invokestatic 96, 3) := by decide +kernel
theorem d_B_keeps_40 : decode b_B_keeps 40 = .ok (.iload_n 2, 1) := by decide +kernel
theorem d_B_keeps_41 : decode b_B_keeps 41 = .ok (.invokestatic 96, 3) := by decide +kernel
theorem d_B_keeps_44 : decode b_B_keeps 44 = .ok (.invokevirtual 100, 3) := by decide +kernel
theorem d_B_keeps_47 : decode b_B_keeps 47 = .ok (.ireturn, 1) := by decide +kernel
theorem d_B_step_0 : decode b_B_step 0 = .ok (.aload_n 0, 1) := by decide +kernel
theorem d_B_step_1 : decode b_B_step 1 = .ok (.iload_n 1, 1) := by decide +kernel
theorem d_B_step_2 : decode b_B_step 2 = .ok (.invokevirtual 72, 3) := by decide +kernel
theorem d_B_step_5 : decode b_B_step 5 = .ok (.astore 5, 2) := by decide +kernel
theorem d_B_step_7 : decode b_B_step 7 = .ok (.aload 5, 2) := by decide +kernel
theorem d_B_step_9 : decode b_B_step 9 = .ok (.ifnull 25, 3) := by decide +kernel
theorem d_B_step_12 : decode b_B_step 12 = .ok (.iload_n 2, 1) := by decide +kernel
theorem d_B_step_13 : decode b_B_step 13 = .ok (.invokestatic 125, 3) := by decide +kernel
theorem d_B_step_16 : decode b_B_step 16 = .ok (.ifCond .eq 18, 3) := by decide +kernel
theorem d_B_step_19 : decode b_B_step 19 = .ok (.iload_n 3, 1) := by decide +kernel
theorem d_B_step_20 : decode b_B_step 20 = .ok (.invokestatic 125, 3) := by decide +kernel
theorem d_B_step_23 : decode b_B_step 23 = .ok (.ifCond .eq 11, 3) := by decide +kernel
theorem d_B_step_26 : decode b_B_step 26 = .ok (.iload 4, 2) := by decide +kernel
theorem d_B_step_28 : decode b_B_step 28 = .ok (.invokestatic 125, 3) := by decide +kernel
theorem d_B_step_31 : decode b_B_step 31 = .ok (.ifCond .ne 5, 3) := by decide +kernel
theorem d_B_step_34 : decode b_B_step 34 = .ok (.lconst 0, 1) := by decide +kernel
theorem d_B_step_35 : decode b_B_step 35 = .ok (.lreturn, 1) := by decide +kernel
theorem d_B_step_36 : decode b_B_step 36 = .ok (.aload 5, 2) := by decide +kernel
theorem d_B_step_38 : decode b_B_step 38 = .ok (.getfield 93, 3) := by decide +kernel
theorem d_B_step_41 : decode b_B_step 41 = .ok (.iload_n 2, 1) := by decide +kernel
theorem d_B_step_42 : decode b_B_step 42 = .ok (.i2l, 1) := by decide +kernel
theorem d_B_step_43 : decode b_B_step 43 = .ok (.iload_n 3, 1) := by decide +kernel
theorem d_B_step_44 : decode b_B_step 44 = .ok (.i2l, 1) := by decide +kernel
theorem d_B_step_45 : decode b_B_step 45 = .ok (.iload 4, 2) := by decide +kernel
theorem d_B_step_47 : decode b_B_step 47 = .ok (.i2l, 1) := by decide +kernel
theorem d_B_step_48 : decode b_B_step 48 = .ok (.iload_n 2, 1) := by decide +kernel
theorem d_B_step_49 : decode b_B_step 49 = .ok (.i2l, 1) := by decide +kernel
theorem d_B_step_50 : decode b_B_step 50 = .ok (.iload_n 3, 1) := by decide +kernel
theorem d_B_step_51 : decode b_B_step 51 = .ok (.i2l, 1) := by decide +kernel
theorem d_B_step_52 : decode b_B_step 52 = .ok (.iload 4, 2) := by decide +kernel
theorem d_B_step_54 : decode b_B_step 54 = .ok (.i2l, 1) := by decide +kernel
theorem d_B_step_55 : decode b_B_step 55 = .ok (.invokevirtual 128, 3) := by decide +kernel
theorem d_B_step_58 : decode b_B_step 58 = .ok (.lreturn, 1) := by decide +kernel
theorem d_B_same_0 : decode b_B_same 0 = .ok (.aload_n 0, 1) := by decide +kernel
theorem d_B_same_1 : decode b_B_same 1 = .ok (.iload_n 1, 1) := by decide +kernel
theorem d_B_same_2 : decode b_B_same 2 = .ok (.invokevirtual 72, 3) := by decide +kernel
theorem d_B_same_5 : decode b_B_same 5 = .ok (.astore_n 2, 1) := by decide +kernel
theorem d_B_same_6 : decode b_B_same 6 = .ok (.aload_n 2, 1) := by decide +kernel
theorem d_B_same_7 : decode b_B_same 7 = .ok (.ifnonnull 5, 3) := by decide +kernel
theorem d_B_same_10 : decode b_B_same 10 = .ok (.iconst (-1), 1) := by decide +kernel
theorem d_B_same_11 : decode b_B_same 11 = .ok (.ireturn, 1) := by decide +kernel
theorem d_B_same_12 : decode b_B_same 12 = .ok (.iconst 0, 1) := by decide +kernel
theorem d_B_same_13 : decode b_B_same 13 = .ok (.istore_n 3, 1) := by decide +kernel
theorem d_B_same_14 : decode b_B_same 14 = .ok (.iload_n 3, 1) := by decide +kernel
theorem d_B_same_15 : decode b_B_same 15 = .ok (.iload_n 1, 1) := by decide +kernel
theorem d_B_same_16 : decode b_B_same 16 = .ok (.if_icmp .ge 38, 3) := by decide +kernel
theorem d_B_same_19 : decode b_B_same 19 = .ok (.aload_n 0, 1) := by decide +kernel
theorem d_B_same_20 : decode b_B_same 20 = .ok (.iload_n 3, 1) := by decide +kernel
theorem d_B_same_21 : decode b_B_same 21 = .ok (.invokevirtual 72, 3) := by decide +kernel
theorem d_B_same_24 : decode b_B_same 24 = .ok (.astore 4, 2) := by decide +kernel
theorem d_B_same_26 : decode b_B_same 26 = .ok (.aload 4, 2) := by decide +kernel
theorem d_B_same_28 : decode b_B_same 28 = .ok (.ifnull 20, 3) := by decide +kernel
theorem d_B_same_31 : decode b_B_same 31 = .ok (.aload 4, 2) := by decide +kernel
theorem d_B_same_33 : decode b_B_same 33 = .ok (.getfield 79, 3) := by decide +kernel
theorem d_B_same_36 : decode b_B_same 36 = .ok (.aload_n 2, 1) := by decide +kernel
theorem d_B_same_37 : decode b_B_same 37 = .ok (.getfield 79, 3) := by decide +kernel
theorem d_B_same_40 : decode b_B_same 40 = .ok (.invokevirtual 104, 3) := by decide +kernel
theorem d_B_same_43 : decode b_B_same 43 = .ok (.ifCond .ne 5, 3) := by decide +kernel
theorem d_B_same_46 : decode b_B_same 46 = .ok (.iload_n 3, 1) := by decide +kernel
theorem d_B_same_47 : decode b_B_same 47 = .ok (.ireturn, 1) := by decide +kernel
theorem d_B_same_48 : decode b_B_same 48 = .ok (.iinc 3 1, 3) := by decide +kernel
theorem d_B_same_51 : decode b_B_same 51 = .ok (.goto (-37), 3) := by decide +kernel
theorem d_B_same_54 : decode b_B_same 54 = .ok (.iload_n 1, 1) := by decide +kernel
theorem d_B_same_55 : decode b_B_same 55 = .ok (.ireturn, 1) := by decide +kernel
theorem d_B_shorter_0 : decode b_B_shorter 0 = .ok (.aload_n 0, 1) := by decide +kernel
theorem d_B_shorter_1 : decode b_B_shorter 1 = .ok (.iload_n 1, 1) := by decide +kernel
theorem d_B_shorter_2 : decode b_B_shorter 2 = .ok (.invokevirtual 72, 3) := by decide +kernel
theorem d_B_shorter_5 : decode b_B_shorter 5 = .ok (.astore 4, 2) := by decide +kernel
theorem d_B_shorter_7 : decode b_B_shorter 7 = .ok (.aload 4, 2) := by decide +kernel
theorem d_B_shorter_9 : decode b_B_shorter 9 = .ok (.ifnonnull 5, 3) := by decide +kernel
theorem d_B_shorter_12 : decode b_B_shorter 12 = .ok (.iconst (-1), 1) := by decide +kernel
theorem d_B_shorter_13 : decode b_B_shorter 13 = .ok (.ireturn, 1) := by decide +kernel
theorem d_B_shorter_14 : decode b_B_shorter 14 = .ok (.iconst 0, 1) := by decide +kernel
theorem d_B_shorter_15 : decode b_B_shorter 15 = .ok (.istore 5, 2) := by decide +kernel
theorem d_B_shorter_17 : decode b_B_shorter 17 = .ok (.bipush (-4), 2) := by decide +kernel
theorem d_B_shorter_19 : decode b_B_shorter 19 = .ok (.istore 6, 2) := by decide +kernel
theorem d_B_shorter_21 : decode b_B_shorter 21 = .ok (.iload 6, 2) := by decide +kernel
theorem d_B_shorter_23 : decode b_B_shorter 23 = .ok (.iconst 4, 1) := by decide +kernel
theorem d_B_shorter_24 : decode b_B_shorter 24 = .ok (.if_icmp .gt 102, 3) := by decide +kernel
theorem d_B_shorter_27 : decode b_B_shorter 27 = .ok (.bipush (-4), 2) := by decide +kernel
theorem d_B_shorter_29 : decode b_B_shorter 29 = .ok (.istore 7, 2) := by decide +kernel
theorem d_B_shorter_31 : decode b_B_shorter 31 = .ok (.iload 7, 2) := by decide +kernel
theorem d_B_shorter_33 : decode b_B_shorter 33 = .ok (.iconst 4, 1) := by decide +kernel
theorem d_B_shorter_34 : decode b_B_shorter 34 = .ok (.if_icmp .gt 86, 3) := by decide +kernel
theorem d_B_shorter_37 : decode b_B_shorter 37 = .ok (.bipush (-4), 2) := by decide +kernel
theorem d_B_shorter_39 : decode b_B_shorter 39 = .ok (.istore 8, 2) := by decide +kernel
theorem d_B_shorter_41 : decode b_B_shorter 41 = .ok (.iload 8, 2) := by decide +kernel
theorem d_B_shorter_43 : decode b_B_shorter 43 = .ok (.iconst 4, 1) := by decide +kernel
theorem d_B_shorter_44 : decode b_B_shorter 44 = .ok (.if_icmp .gt 70, 3) := by decide +kernel
theorem d_B_shorter_47 : decode b_B_shorter 47 = .ok (.iload 6, 2) := by decide +kernel
theorem d_B_shorter_49 : decode b_B_shorter 49 = .ok (.ifCond .ne 13, 3) := by decide +kernel
theorem d_B_shorter_52 : decode b_B_shorter 52 = .ok (.iload 7, 2) := by decide +kernel
theorem d_B_shorter_54 : decode b_B_shorter 54 = .ok (.ifCond .ne 8, 3) := by decide +kernel
theorem d_B_shorter_57 : decode b_B_shorter 57 = .ok (.iload 8, 2) := by decide +kernel
theorem d_B_shorter_59 : decode b_B_shorter 59 = .ok (.ifCond .eq 7, 3) := by decide +kernel
theorem d_B_shorter_62 : decode b_B_shorter 62 = .ok (.iconst 1, 1) := by decide +kernel
theorem d_B_shorter_63 : decode b_B_shorter 63 = .ok (.goto 4, 3) := by decide +kernel
theorem d_B_shorter_66 : decode b_B_shorter 66 = .ok (.iconst 0, 1) := by decide +kernel
theorem d_B_shorter_67 : decode b_B_shorter 67 = .ok (.istore 9, 2) := by decide +kernel
theorem d_B_shorter_69 : decode b_B_shorter 69 = .ok (.iload 9, 2) := by decide +kernel
theorem d_B_shorter_71 : decode b_B_shorter 71 = .ok (.ifCond .eq 37, 3) := by decide +kernel
theorem d_B_shorter_74 : decode b_B_shorter 74 = .ok (.aload 4, 2) := by decide +kernel
theorem d_B_shorter_76 : decode b_B_shorter 76 = .ok (.getfield 93, 3) := by decide +kernel
theorem d_B_shorter_79 : decode b_B_shorter 79 = .ok (.iload 6, 2) := by decide +kernel
theorem d_B_shorter_81 : decode b_B_shorter 81 = .ok (.i2l, 1) := by decide +kernel
theorem d_B_shorter_82 : decode b_B_shorter 82 = .ok (.iload 7, 2) := by decide +kernel
theorem d_B_shorter_84 : decode b_B_shorter 84 = .ok (.i2l, 1) := by decide +kernel
theorem d_B_shorter_85 : decode b_B_shorter 85 = .ok (.iload 8, 2) := by decide +kernel
theorem d_B_shorter_87 : decode b_B_shorter 87 = .ok (.i2l, 1) := by decide +kernel
theorem d_B_shorter_88 : decode b_B_shorter 88 = .ok (.iload 6, 2) := by decide +kernel
theorem d_B_shorter_90 : decode b_B_shorter 90 = .ok (.i2l, 1) := by decide +kernel
theorem d_B_shorter_91 : decode b_B_shorter 91 = .ok (.iload 7, 2) := by decide +kernel
theorem d_B_shorter_93 : decode b_B_shorter 93 = .ok (.i2l, 1) := by decide +kernel
theorem d_B_shorter_94 : decode b_B_shorter 94 = .ok (.iload 8, 2) := by decide +kernel
theorem d_B_shorter_96 : decode b_B_shorter 96 = .ok (.i2l, 1) := by decide +kernel
theorem d_B_shorter_97 : decode b_B_shorter 97 = .ok (.invokevirtual 128, 3) := by decide +kernel
theorem d_B_shorter_100 : decode b_B_shorter 100 = .ok (.lload_n 2, 1) := by decide +kernel
theorem d_B_shorter_101 : decode b_B_shorter 101 = .ok (.lcmp, 1) := by decide +kernel
theorem d_B_shorter_102 : decode b_B_shorter 102 = .ok (.ifCond .gt 6, 3) := by decide +kernel
theorem d_B_shorter_105 : decode b_B_shorter 105 = .ok (.iinc 5 1, 3) := by decide +kernel
theorem d_B_shorter_108 : decode b_B_shorter 108 = .ok (.iinc 8 1, 3) := by decide +kernel
theorem d_B_shorter_111 : decode b_B_shorter 111 = .ok (.goto (-70), 3) := by decide +kernel
theorem d_B_shorter_114 : decode b_B_shorter 114 = .ok (.iinc 7 1, 3) := by decide +kernel
theorem d_B_shorter_117 : decode b_B_shorter 117 = .ok (.goto (-86), 3) := by decide +kernel
theorem d_B_shorter_120 : decode b_B_shorter 120 = .ok (.iinc 6 1, 3) := by decide +kernel
theorem d_B_shorter_123 : decode b_B_shorter 123 = .ok (.goto (-102), 3) := by decide +kernel
theorem d_B_shorter_126 : decode b_B_shorter 126 = .ok (.iload 5, 2) := by decide +kernel
theorem d_B_shorter_128 : decode b_B_shorter 128 = .ok (.ireturn, 1) := by decide +kernel
