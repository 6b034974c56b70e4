theorem d_B_multiples_0 : decode b_B_multiples 0 = .ok (.aload_n 0, 1) := by decide +kernel
theorem d_B_multiples_1 : decode b_B_multiples 1 = .ok (.iload_n 1, 1) := by decide +kernel
theorem d_B_multiples_2 : decode b_B_multiples 2 = .ok (.invokevirtual 72, 3) := by decide +kernel
theorem d_B_multiples_5 : decode b_B_multiples 5 = .ok (.astore_n 3, 1) := by decide +kernel
theorem d_B_multiples_6 : decode b_B_multiples 6 = .ok (.aload_n 3, 1) := by decide +kernel
theorem d_B_multiples_7 : decode b_B_multiples 7 = .ok (.ifnull 10, 3) := by decide +kernel
theorem d_B_multiples_10 : decode b_B_multiples 10 = .ok (.iload_n 2, 1) := by decide +kernel
theorem d_B_multiples_11 : decode b_B_multiples 11 = .ok (.invokestatic 108, 3) := by decide +kernel
theorem d_B_multiples_14 : decode b_B_multiples 14 = .ok (.ifCond .ne 5, 3) := by decide +kernel
theorem d_B_multiples_17 : decode b_B_multiples 17 = .ok (.iconst (-1), 1) := by decide +kernel
theorem d_B_multiples_18 : decode b_B_multiples 18 = .ok (.ireturn, 1) := by decide +kernel
theorem d_B_multiples_19 : decode b_B_multiples 19 = .ok (.aload_n 0, 1) := by decide +kernel
theorem d_B_multiples_20 : decode b_B_multiples 20 = .ok (.getfield 27, 3) := by decide +kernel
theorem d_B_multiples_23 : decode b_B_multiples 23 = .ok (.iload_n 1, 1) := by decide +kernel
theorem d_B_multiples_24 : decode b_B_multiples 24 = .ok (.aload_n 3, 1) := by decide +kernel
theorem d_B_multiples_25 : decode b_B_multiples 25 = .ok (.getfield 79, 3) := by decide +kernel
theorem d_B_multiples_28 : decode b_B_multiples 28 = .ok (.iload_n 2, 1) := by decide +kernel
theorem d_B_multiples_29 : decode b_B_multiples 29 = .ok (.invokevirtual 111, 3) := by decide +kernel
theorem d_B_multiples_32 : decode b_B_multiples 32 = .ok (.aload_n 0, 1) := by decide +kernel
theorem d_B_multiples_33 : decode b_B_multiples 33 = .ok (.getfield 27, 3) := by decide +kernel
theorem d_B_multiples_36 : decode b_B_multiples 36 = .ok (.invokevirtual 115, 3) := by decide +kernel
theorem d_B_multiples_39 : decode b_B_multiples 39 = .ok (.ireturn, 1) := by decide +kernel
theorem d_B_multiple_0 : decode b_B_multiple 0 = .ok (.aload_n 0, 1) := by decide +kernel
theorem d_B_multiple_1 : decode b_B_multiple 1 = .ok (.iload_n 1, 1) := by decide +kernel
theorem d_B_multiple_2 : decode b_B_multiple 2 = .ok (.invokevirtual 72, 3) := by decide +kernel
theorem d_B_multiple_5 : decode b_B_multiple 5 = .ok (.astore 5, 2) := by decide +kernel
theorem d_B_multiple_7 : decode b_B_multiple 7 = .ok (.aload 5, 2) := by decide +kernel
theorem d_B_multiple_9 : decode b_B_multiple 9 = .ok (.ifnull 10, 3) := by decide +kernel
theorem d_B_multiple_12 : decode b_B_multiple 12 = .ok (.iload_n 2, 1) := by decide +kernel
theorem d_B_multiple_13 : decode b_B_multiple 13 = .ok (.invokestatic 108, 3) := by decide +kernel
theorem d_B_multiple_16 : decode b_B_multiple 16 = .ok (.ifCond .ne 5, 3) := by decide +kernel
theorem d_B_multiple_19 : decode b_B_multiple 19 = .ok (.lconst 0, 1) := by decide +kernel
theorem d_B_multiple_20 : decode b_B_multiple 20 = .ok (.lreturn, 1) := by decide +kernel
theorem d_B_multiple_21 : decode b_B_multiple 21 = .ok (.aload_n 0, 1) := by decide +kernel
theorem d_B_multiple_22 : decode b_B_multiple 22 = .ok (.getfield 27, 3) := by decide +kernel
theorem d_B_multiple_25 : decode b_B_multiple 25 = .ok (.iload_n 1, 1) := by decide +kernel
theorem d_B_multiple_26 : decode b_B_multiple 26 = .ok (.aload 5, 2) := by decide +kernel
theorem d_B_multiple_28 : decode b_B_multiple 28 = .ok (.getfield 79, 3) := by decide +kernel
theorem d_B_multiple_31 : decode b_B_multiple 31 = .ok (.iload_n 2, 1) := by decide +kernel
theorem d_B_multiple_32 : decode b_B_multiple 32 = .ok (.invokevirtual 111, 3) := by decide +kernel
theorem d_B_multiple_35 : decode b_B_multiple 35 = .ok (.aload_n 0, 1) := by decide +kernel
theorem d_B_multiple_36 : decode b_B_multiple 36 = .ok (.getfield 27, 3) := by decide +kernel
theorem d_B_multiple_39 : decode b_B_multiple 39 = .ok (.iload_n 3, 1) := by decide +kernel
theorem d_B_multiple_40 : decode b_B_multiple 40 = .ok (.iload 4, 2) := by decide +kernel
theorem d_B_multiple_42 : decode b_B_multiple 42 = .ok (.invokevirtual 118, 3) := by decide +kernel
theorem d_B_multiple_45 : decode b_B_multiple 45 = .ok (.lreturn, 1) := by decide +kernel
theorem d_B_common_0 : decode b_B_common 0 = .ok (.aload_n 0, 1) := by decide +kernel
theorem d_B_common_1 : decode b_B_common 1 = .ok (.iload_n 1, 1) := by decide +kernel
theorem d_B_common_2 : decode b_B_common 2 = .ok (.invokevirtual 72, 3) := by decide +kernel
theorem d_B_common_5 : decode b_B_common 5 = .ok (.astore 5, 2) := by decide +kernel
theorem d_B_common_7 : decode b_B_common 7 = .ok (.aload_n 0, 1) := by decide +kernel
theorem d_B_common_8 : decode b_B_common 8 = .ok (.iload_n 3, 1) := by decide +kernel
theorem d_B_common_9 : decode b_B_common 9 = .ok (.invokevirtual 72, 3) := by decide +kernel
theorem d_B_common_12 : decode b_B_common 12 = .ok (.astore 6, 2) := by decide +kernel
theorem d_B_common_14 : decode b_B_common 14 = .ok (.aload 5, 2) := by decide +kernel
theorem d_B_common_16 : decode b_B_common 16 = .ok (.ifnull 23, 3) := by decide +kernel
theorem d_B_common_19 : decode b_B_common 19 = .ok (.aload 6, 2) := by decide +kernel
theorem d_B_common_21 : decode b_B_common 21 = .ok (.ifnull 18, 3) := by decide +kernel
theorem d_B_common_24 : decode b_B_common 24 = .ok (.iload_n 2, 1) := by decide +kernel
theorem d_B_common_25 : decode b_B_common 25 = .ok (.invokestatic 108, 3) := by decide +kernel
theorem d_B_common_28 : decode b_B_common 28 = .ok (.ifCond .eq 11, 3) := by decide +kernel
theorem d_B_common_31 : decode b_B_common 31 = .ok (.iload 4, 2) := by decide +kernel
theorem d_B_common_33 : decode b_B_common 33 = .ok (.invokestatic 108, 3) := by decide +kernel
theorem d_B_common_36 : decode b_B_common 36 = .ok (.ifCond .ne 5, 3) := by decide +kernel
theorem d_B_common_39 : decode b_B_common 39 = .ok (.iconst (-1), 1) := by decide +kernel
theorem d_B_common_40 : decode b_B_common 40 = .ok (.ireturn, 1) := by decide +kernel
theorem d_B_common_41 : decode b_B_common 41 = .ok (.aload_n 0, 1) := by decide +kernel
theorem d_B_common_42 : decode b_B_common 42 = .ok (.getfield 27, 3) := by decide +kernel
theorem d_B_common_45 : decode b_B_common 45 = .ok (.iload_n 1, 1) := by decide +kernel
theorem d_B_common_46 : decode b_B_common 46 = .ok (.aload 5, 2) := by decide +kernel
theorem d_B_common_48 : decode b_B_common 48 = .ok (.getfield 79, 3) := by decide +kernel
theorem d_B_common_51 : decode b_B_common 51 = .ok (.iload_n 2, 1) := by decide +kernel
theorem d_B_common_52 : decode b_B_common 52 = .ok (.invokevirtual 111, 3) := by decide +kernel
theorem d_B_common_55 : decode b_B_common 55 = .ok (.aload_n 0, 1) := by decide +kernel
theorem d_B_common_56 : decode b_B_common 56 = .ok (.getfield 31, 3) := by decide +kernel
theorem d_B_common_59 : decode b_B_common 59 = .ok (.iload_n 3, 1) := by decide +kernel
theorem d_B_common_60 : decode b_B_common 60 = .ok (.aload 6, 2) := by decide +kernel
theorem d_B_common_62 : decode b_B_common 62 = .ok (.getfield 79, 3) := by decide +kernel
theorem d_B_common_65 : decode b_B_common 65 = .ok (.iload 4, 2) := by decide +kernel
theorem d_B_common_67 : decode b_B_common 67 = .ok (.invokevirtual 111, 3) := by decide +kernel
theorem d_B_common_70 : decode b_B_common 70 = .ok (.aload_n 0, 1) := by decide +kernel
theorem d_B_common_71 : decode b_B_common 71 = .ok (.getfield 27, 3) := by decide +kernel
theorem d_B_common_74 : decode b_B_common 74 = .ok (.aload_n 0, 1) := by decide +kernel
theorem d_B_common_75 : decode b_B_common 75 = .ok (.getfield 31, 3) := by decide +kernel
theorem d_B_common_78 : decode b_B_common 78 = .ok (.invokevirtual 121, 3) := by decide +kernel
theorem d_B_common_81 : decode b_B_common 81 = .ok (.ireturn, 1) := by decide +kernel
theorem d_B_init_0 : decode b_B_init 0 = .ok (.aload_n 0, 1) := by decide +kernel
theorem d_B_init_1 : decode b_B_init 1 = .ok (.invokespecial 1, 3) := by decide +kernel
theorem d_B_init_4 : decode b_B_init 4 = .ok (.aload_n 0, 1) := by decide +kernel
theorem d_B_init_5 : decode b_B_init 5 = .ok (.bipush 40, 2) := by decide +kernel
theorem d_B_init_7 : decode b_B_init 7 = .ok (.anewarray 9, 3) := by decide +kernel
theorem d_B_init_10 : decode b_B_init 10 = .ok (.putfield 11, 3) := by decide +kernel
theorem d_B_init_13 : decode b_B_init 13 = .ok (.aload_n 0, 1) := by decide +kernel
theorem d_B_init_14 : decode b_B_init 14 = .ok (.new 15, 3) := by decide +kernel
theorem d_B_init_17 : decode b_B_init 17 = .ok (.dup, 1) := by decide +kernel
theorem d_B_init_18 : decode b_B_init 18 = .ok (.invokespecial 17, 3) := by decide +kernel
theorem d_B_init_21 : decode b_B_init 21 = .ok (.putfield 18, 3) := by decide +kernel
theorem d_B_init_24 : decode b_B_init 24 = .ok (.aload_n 0, 1) := by decide +kernel
theorem d_B_init_25 : decode b_B_init 25 = .ok (.new 22, 3) := by decide +kernel
theorem d_B_init_28 : decode b_B_init 28 = .ok (.dup, 1) := by decide +kernel
theorem d_B_init_29 : decode b_B_init 29 = .ok (.aload_n 0, 1) := by decide +kernel
theorem d_B_init_30 : decode b_B_init 30 = .ok (.getfield 18, 3) := by decide +kernel
theorem d_B_init_33 : decode b_B_init 33 = .ok (.invokespecial 24, 3) := by decide +kernel
theorem d_B_init_36 : decode b_B_init 36 = .ok (.putfield 27, 3) := by decide +kernel
theorem d_B_init_39 : decode b_B_init 39 = .ok (.aload_n 0, 1) := by decide +kernel
theorem d_B_init_40 : decode b_B_init 40 = .ok (.new 22, 3) := by decide +kernel
theorem d_B_init_43 : decode b_B_init 43 = .ok (.dup, 1) := by decide +kernel
theorem d_B_init_44 : decode b_B_init 44 = .ok (.aload_n 0, 1) := by decide +kernel
theorem d_B_init_45 : decode b_B_init 45 = .ok (.getfield 18, 3) := by decide +kernel
theorem d_B_init_48 : decode b_B_init 48 = .ok (.invokespecial 24, 3) := by decide +kernel
theorem d_B_init_51 : decode b_B_init 51 = .ok (.putfield 31, 3) := by decide +kernel
theorem d_B_init_54 : decode b_B_init 54 = .ok (.aload_n 0, 1) := by decide +kernel
theorem d_B_init_55 : decode b_B_init 55 = .ok (.iconst 0, 1) := by decide +kernel
theorem d_B_init_56 : decode b_B_init 56 = .ok (.putfield 34, 3) := by decide +kernel
theorem d_B_init_59 : decode b_B_init 59 = .ok (.return_, 1) := by decide +kernel
theorem d_C_init_0 : decode b_C_init 0 = .ok (.aload_n 0, 1) := by decide +kernel
theorem d_C_init_1 : decode b_C_init 1 = .ok (.invokespecial 1, 3) := by decide +kernel
theorem d_C_init_4 : decode b_C_init 4 = .ok (.aload_n 0, 1) := by decide +kernel
theorem d_C_init_5 : decode b_C_init 5 = .ok (.aload_n 1, 1) := by decide +kernel
theorem d_C_init_6 : decode b_C_init 6 = .ok (.putfield 7, 3) := by decide +kernel
theorem d_C_init_9 : decode b_C_init 9 = .ok (.aload_n 0, 1) := by decide +kernel
theorem d_C_init_10 : decode b_C_init 10 = .ok (.aload_n 2, 1) := by decide +kernel
theorem d_C_init_11 : decode b_C_init 11 = .ok (.putfield 13, 3) := by decide +kernel
theorem d_C_init_14 : decode b_C_init 14 = .ok (.aload_n 0, 1) := by decide +kernel
theorem d_C_init_15 : decode b_C_init 15 = .ok (.iload_n 3, 1) := by decide +kernel
theorem d_C_init_16 : decode b_C_init 16 = .ok (.putfield 16, 3) := by decide +kernel
theorem d_C_init_19 : decode b_C_init 19 = .ok (.aload_n 0, 1) := by decide +kernel
theorem d_C_init_20 : decode b_C_init 20 = .ok (.iload 4, 2) := by decide +kernel
theorem d_C_init_22 : decode b_C_init 22 = .ok (.putfield 20, 3) := by decide +kernel
theorem d_C_init_25 : decode b_C_init 25 = .ok (.return_, 1) := by decide +kernel
theorem d_B_cell_0 : decode b_B_cell 0 = .ok (.aload_n 0, 1) := by decide +kernel
theorem d_B_cell_1 : decode b_B_cell 1 = .ok (.getfield 34, 3) := by decide +kernel
theorem d_B_cell_4 : decode b_B_cell 4 = .ok (.ifCond .lt 15, 3) := by decide +kernel
theorem d_B_cell_7 : decode b_B_cell 7 = .ok (.aload_n 0, 1) := by decide +kernel
theorem d_B_cell_8 : decode b_B_cell 8 = .ok (.getfield 34, 3) := by decide +kernel
theorem d_B_cell_11 : decode b_B_cell 11 = .ok (.aload_n 0, 1) := by decide +kernel
theorem d_B_cell_12 : decode b_B_cell 12 = .ok (.getfield 11, 3) := by decide +kernel
theorem d_B_cell_15 : decode b_B_cell 15 = .ok (.arraylength, 1) := by decide +kernel
theorem d_B_cell_16 : decode b_B_cell 16 = .ok (.if_icmp .lt 5, 3) := by decide +kernel
theorem d_B_cell_19 : decode b_B_cell 19 = .ok (.iconst (-1), 1) := by decide +kernel
theorem d_B_cell_20 : decode b_B_cell 20 = .ok (.ireturn, 1) := by decide +kernel
theorem d_B_cell_21 : decode b_B_cell 21 = .ok (.iload_n 1, 1) := by decide +kernel
theorem d_B_cell_22 : decode b_B_cell 22 = .ok (.invokestatic 38, 3) := by decide +kernel
theorem d_B_cell_25 : decode b_B_cell 25 = .ok (.ifCond .eq 17, 3) := by decide +kernel
theorem d_B_cell_28 : decode b_B_cell 28 = .ok (.iload_n 2, 1) := by decide +kernel
theorem d_B_cell_29 : decode b_B_cell 29 = .ok (.invokestatic 38, 3) := by decide +kernel
theorem d_B_cell_32 : decode b_B_cell 32 = .ok (.ifCond .eq 10, 3) := by decide +kernel
theorem d_B_cell_35 : decode b_B_cell 35 = .ok (.iload_n 3, 1) := by decide +kernel
theorem d_B_cell_36 : decode b_B_cell 36 = .ok (.invokestatic 38, 3) := by decide +kernel
theorem d_B_cell_39 : decode b_B_cell 39 = .ok (.ifCond .ne 5, 3) := by decide +kernel
theorem d_B_cell_42 : decode b_B_cell 42 = .ok (.iconst (-1), 1) := by decide +kernel
theorem d_B_cell_43 : decode b_B_cell 43 = .ok (.ireturn, 1) := by decide +kernel
theorem d_B_cell_44 : decode b_B_cell 44 = .ok (.iload 4, 2) := by decide +kernel
theorem d_B_cell_46 : decode b_B_cell 46 = .ok (.invokestatic 42, 3) := by decide +kernel
theorem d_B_cell_49 : decode b_B_cell 49 = .ok (.ifCond .eq 19, 3) := by decide +kernel
theorem d_B_cell_52 : decode b_B_cell 52 = .ok (.iload 5, 2) := by decide +kernel
theorem d_B_cell_54 : decode b_B_cell 54 = .ok (.invokestatic 42, 3) := by decide +kernel
theorem d_B_cell_57 : decode b_B_cell 57 = .ok (.ifCond .eq 11, 3) := by decide +kernel
theorem d_B_cell_60 : decode b_B_cell 60 = .ok (.iload 6, 2) := by decide +kernel
theorem d_B_cell_62 : decode b_B_cell 62 = .ok (.invokestatic 42, 3) := by decide +kernel
theorem d_B_cell_65 : decode b_B_cell 65 = .ok (.ifCond .ne 5, 3) := by decide +kernel
theorem d_B_cell_68 : decode b_B_cell 68 = .ok (.iconst (-1), 1) := by decide +kernel
theorem d_B_cell_69 : decode b_B_cell 69 = .ok (.ireturn, 1) := by decide +kernel
theorem d_B_cell_70 : decode b_B_cell 70 = .ok (.new 45, 3) := by decide +kernel
theorem d_B_cell_73 : decode b_B_cell 73 = .ok (.dup, 1) := by decide +kernel
theorem d_B_cell_74 : decode b_B_cell 74 = .ok (.iload_n 1, 1) := by decide +kernel
theorem d_B_cell_75 : decode b_B_cell 75 = .ok (.i2l, 1) := by decide +kernel
theorem d_B_cell_76 : decode b_B_cell 76 = .ok (.iload_n 2, 1) := by decide +kernel
theorem d_B_cell_77 : decode b_B_cell 77 = .ok (.i2l, 1) := by decide +kernel
theorem d_B_cell_78 : decode b_B_cell 78 = .ok (.iload_n 3, 1) := by decide +kernel
theorem d_B_cell_79 : decode b_B_cell 79 = .ok (.i2l, 1) := by decide +kernel
theorem d_B_cell_80 : decode b_B_cell 80 = .ok (.iload 4, 2) := by decide +kernel
theorem d_B_cell_82 : decode b_B_cell 82 = .ok (.i2l, 1) := by decide +kernel
theorem d_B_cell_83 : decode b_B_cell 83 = .ok (.iload 5, 2) := by decide +kernel
theorem d_B_cell_85 : decode b_B_cell 85 = .ok (.i2l, 1) := by decide +kernel
theorem d_B_cell_86 : decode b_B_cell 86 = .ok (.iload 6, 2) := by decide +kernel
theorem d_B_cell_88 : decode b_B_cell 88 = .ok (.i2l, 1) := by decide +kernel
theorem d_B_cell_89 : decode b_B_cell 89 = .ok (.invokespecial 47, 3) := by decide +kernel
theorem d_B_cell_92 : decode b_B_cell 92 = .ok (.astore 7, 2) := by decide +kernel
theorem d_B_cell_94 : decode b_B_cell 94 = .ok (.aload 7, 2) := by decide +kernel
theorem d_B_cell_96 : decode b_B_cell 96 = .ok (.invokevirtual 50, 3) := by decide +kernel
theorem d_B_cell_99 : decode b_B_cell 99 = .ok (.ifCond .ne 5, 3) := by decide +kernel
theorem d_B_cell_102 : decode b_B_cell 102 = .ok (.iconst (-1), 1) := by decide +kernel
theorem d_B_cell_103 : decode b_B_cell 103 = .ok (.ireturn, 1) := by decide +kernel
theorem d_B_cell_104 : decode b_B_cell 104 = .ok (.aload_n 0, 1) := by decide +kernel
theorem d_B_cell_105 : decode b_B_cell 105 = .ok (.getfield 18, 3) := by decide +kernel
theorem d_B_cell_108 : decode b_B_cell 108 = .ok (.aload 7, 2) := by decide +kernel
theorem d_B_cell_110 : decode b_B_cell 110 = .ok (.invokevirtual 54, 3) := by decide +kernel
theorem d_B_cell_113 : decode b_B_cell 113 = .ok (.aload_n 0, 1) := by decide +kernel
theorem d_B_cell_114 : decode b_B_cell 114 = .ok (.getfield 18, 3) := by decide +kernel
theorem d_B_cell_117 : decode b_B_cell 117 = .ok (.invokevirtual 58, 3) := by decide +kernel
theorem d_B_cell_120 : decode b_B_cell 120 = .ok (.astore 8, 2) := by decide +kernel
theorem d_B_cell_122 : decode b_B_cell 122 = .ok (.aload_n 0, 1) := by decide +kernel
theorem d_B_cell_123 : decode b_B_cell 123 = .ok (.getfield 11, 3) := by decide +kernel
theorem d_B_cell_126 : decode b_B_cell 126 = .ok (.aload_n 0, 1) := by decide +kernel
theorem d_B_cell_127 : decode b_B_cell 127 = .ok (.getfield 34, 3) := by decide +kernel
theorem d_B_cell_130 : decode b_B_cell 130 = .ok (.new 9, 3) := by decide +kernel
theorem d_B_cell_133 : decode b_B_cell 133 = .ok (.dup, 1) := by decide +kernel
theorem d_B_cell_134 : decode b_B_cell 134 = .ok (.aload 7, 2) := by decide +kernel
theorem d_B_cell_136 : decode b_B_cell 136 = .ok (.aload 8, 2) := by decide +kernel
theorem d_B_cell_138 : decode b_B_cell 138 = .ok (.aload 8, 2) := by decide +kernel
theorem d_B_cell_140 : decode b_B_cell 140 = .ok (.invokevirtual 62, 3) := by decide +kernel
theorem d_B_cell_143 : decode b_B_cell 143 = .ok (.aload_n 0, 1) := by decide +kernel
theorem d_B_cell_144 : decode b_B_cell 144 = .ok (.getfield 18, 3) := by decide +kernel
theorem d_B_cell_147 : decode b_B_cell 147 = .ok (.invokevirtual 66, 3) := by decide +kernel
theorem d_B_cell_150 : decode b_B_cell 150 = .ok (.invokespecial 69, 3) := by decide +kernel
theorem d_B_cell_153 : decode b_B_cell 153 = .ok (.aastore, 1) := by decide +kernel
theorem d_B_cell_154 : decode b_B_cell 154 = .ok (.aload_n 0, 1) := by decide +kernel
theorem d_B_cell_155 : decode b_B_cell 155 = .ok (.dup, 1) := by decide +kernel
theorem d_B_cell_156 : decode b_B_cell 156 = .ok (.getfield 34, 3) := by decide +kernel
theorem d_B_cell_159 : decode b_B_cell 159 = .ok (.iconst 1, 1) := by decide +kernel
theorem d_B_cell_160 : decode b_B_cell 160 = .ok (.iadd, 1) := by decide +kernel
theorem d_B_cell_161 : decode b_B_cell 161 = .ok (.putfield 34, 3) := by decide +kernel
theorem d_B_cell_164 : decode b_B_cell 164 = .ok (.aload_n 0, 1) := by decide +kernel
theorem d_B_cell_165 : decode b_B_cell 165 = .ok (.getfield 34, 3) := by decide +kernel
theorem d_B_cell_168 : decode b_B_cell 168 = .ok (.iconst 1, 1) := by decide +kernel
theorem d_B_cell_169 : decode b_B_cell 169 = .ok (.isub, 1) := by decide +kernel
theorem d_B_cell_170 : decode b_B_cell 170 = .ok (.ireturn, 1) := by decide +kernel
