theorem d_R_shX_0 : decode b_R_shX 0 = .ok (.aload_n 0, 1) := by decide +kernel
theorem d_R_shX_1 : decode b_R_shX 1 = .ok (.getfield 49, 3) := by decide +kernel
theorem d_R_shX_4 : decode b_R_shX 4 = .ok (.invokestatic 84, 3) := by decide +kernel
theorem d_R_shX_7 : decode b_R_shX 7 = .ok (.aload_n 0, 1) := by decide +kernel
theorem d_R_shX_8 : decode b_R_shX 8 = .ok (.getfield 45, 3) := by decide +kernel
theorem d_R_shX_11 : decode b_R_shX 11 = .ok (.lcmp, 1) := by decide +kernel
theorem d_R_shX_12 : decode b_R_shX 12 = .ok (.ifCond .gt 53, 3) := by decide +kernel
theorem d_R_shX_15 : decode b_R_shX 15 = .ok (.aload_n 0, 1) := by decide +kernel
theorem d_R_shX_16 : decode b_R_shX 16 = .ok (.getfield 49, 3) := by decide +kernel
theorem d_R_shX_19 : decode b_R_shX 19 = .ok (.aload_n 0, 1) := by decide +kernel
theorem d_R_shX_20 : decode b_R_shX 20 = .ok (.getfield 45, 3) := by decide +kernel
theorem d_R_shX_23 : decode b_R_shX 23 = .ok (.lcmp, 1) := by decide +kernel
theorem d_R_shX_24 : decode b_R_shX 24 = .ok (.ifCond .ne 19, 3) := by decide +kernel
theorem d_R_shX_27 : decode b_R_shX 27 = .ok (.ldc2_w 47, 3) := by decide +kernel
theorem d_R_shX_30 : decode b_R_shX 30 = .ok (.aload_n 0, 1) := by decide +kernel
theorem d_R_shX_31 : decode b_R_shX 31 = .ok (.getfield 52, 3) := by decide +kernel
theorem d_R_shX_34 : decode b_R_shX 34 = .ok (.lmul, 1) := by decide +kernel
theorem d_R_shX_35 : decode b_R_shX 35 = .ok (.aload_n 0, 1) := by decide +kernel
theorem d_R_shX_36 : decode b_R_shX 36 = .ok (.getfield 55, 3) := by decide +kernel
theorem d_R_shX_39 : decode b_R_shX 39 = .ok (.lcmp, 1) := by decide +kernel
theorem d_R_shX_40 : decode b_R_shX 40 = .ok (.ifCond .lt 25, 3) := by decide +kernel
theorem d_R_shX_43 : decode b_R_shX 43 = .ok (.aload_n 0, 1) := by decide +kernel
theorem d_R_shX_44 : decode b_R_shX 44 = .ok (.getfield 49, 3) := by decide +kernel
theorem d_R_shX_47 : decode b_R_shX 47 = .ok (.aload_n 0, 1) := by decide +kernel
theorem d_R_shX_48 : decode b_R_shX 48 = .ok (.getfield 45, 3) := by decide +kernel
theorem d_R_shX_51 : decode b_R_shX 51 = .ok (.lneg, 1) := by decide +kernel
theorem d_R_shX_52 : decode b_R_shX 52 = .ok (.lcmp, 1) := by decide +kernel
theorem d_R_shX_53 : decode b_R_shX 53 = .ok (.ifCond .ne 84, 3) := by decide +kernel
theorem d_R_shX_56 : decode b_R_shX 56 = .ok (.aload_n 0, 1) := by decide +kernel
theorem d_R_shX_57 : decode b_R_shX 57 = .ok (.getfield 55, 3) := by decide +kernel
theorem d_R_shX_60 : decode b_R_shX 60 = .ok (.lconst 0, 1) := by decide +kernel
theorem d_R_shX_61 : decode b_R_shX 61 = .ok (.lcmp, 1) := by decide +kernel
theorem d_R_shX_62 : decode b_R_shX 62 = .ok (.ifCond .ge 75, 3) := by decide +kernel
theorem d_R_shX_65 : decode b_R_shX 65 = .ok (.aload_n 0, 1) := by decide +kernel
theorem d_R_shX_66 : decode b_R_shX 66 = .ok (.getfield 49, 3) := by decide +kernel
theorem d_R_shX_69 : decode b_R_shX 69 = .ok (.lconst 0, 1) := by decide +kernel
theorem d_R_shX_70 : decode b_R_shX 70 = .ok (.lcmp, 1) := by decide +kernel
theorem d_R_shX_71 : decode b_R_shX 71 = .ok (.ifCond .le 7, 3) := by decide +kernel
theorem d_R_shX_74 : decode b_R_shX 74 = .ok (.iconst 1, 1) := by decide +kernel
theorem d_R_shX_75 : decode b_R_shX 75 = .ok (.goto 4, 3) := by decide +kernel
theorem d_R_shX_78 : decode b_R_shX 78 = .ok (.iconst (-1), 1) := by decide +kernel
theorem d_R_shX_79 : decode b_R_shX 79 = .ok (.istore_n 1, 1) := by decide +kernel
theorem d_R_shX_80 : decode b_R_shX 80 = .ok (.aload_n 0, 1) := by decide +kernel
theorem d_R_shX_81 : decode b_R_shX 81 = .ok (.aload_n 0, 1) := by decide +kernel
theorem d_R_shX_82 : decode b_R_shX 82 = .ok (.getfield 45, 3) := by decide +kernel
theorem d_R_shX_85 : decode b_R_shX 85 = .ok (.aload_n 0, 1) := by decide +kernel
theorem d_R_shX_86 : decode b_R_shX 86 = .ok (.getfield 46, 3) := by decide +kernel
theorem d_R_shX_89 : decode b_R_shX 89 = .ok (.ladd, 1) := by decide +kernel
theorem d_R_shX_90 : decode b_R_shX 90 = .ok (.iload_n 1, 1) := by decide +kernel
theorem d_R_shX_91 : decode b_R_shX 91 = .ok (.i2l, 1) := by decide +kernel
theorem d_R_shX_92 : decode b_R_shX 92 = .ok (.aload_n 0, 1) := by decide +kernel
theorem d_R_shX_93 : decode b_R_shX 93 = .ok (.getfield 49, 3) := by decide +kernel
theorem d_R_shX_96 : decode b_R_shX 96 = .ok (.lmul, 1) := by decide +kernel
theorem d_R_shX_97 : decode b_R_shX 97 = .ok (.lsub, 1) := by decide +kernel
theorem d_R_shX_98 : decode b_R_shX 98 = .ok (.putfield 46, 3) := by decide +kernel
theorem d_R_shX_101 : decode b_R_shX 101 = .ok (.aload_n 0, 1) := by decide +kernel
theorem d_R_shX_102 : decode b_R_shX 102 = .ok (.aload_n 0, 1) := by decide +kernel
theorem d_R_shX_103 : decode b_R_shX 103 = .ok (.getfield 52, 3) := by decide +kernel
theorem d_R_shX_106 : decode b_R_shX 106 = .ok (.iload_n 1, 1) := by decide +kernel
theorem d_R_shX_107 : decode b_R_shX 107 = .ok (.i2l, 1) := by decide +kernel
theorem d_R_shX_108 : decode b_R_shX 108 = .ok (.aload_n 0, 1) := by decide +kernel
theorem d_R_shX_109 : decode b_R_shX 109 = .ok (.getfield 55, 3) := by decide +kernel
theorem d_R_shX_112 : decode b_R_shX 112 = .ok (.lmul, 1) := by decide +kernel
theorem d_R_shX_113 : decode b_R_shX 113 = .ok (.lsub, 1) := by decide +kernel
theorem d_R_shX_114 : decode b_R_shX 114 = .ok (.putfield 52, 3) := by decide +kernel
theorem d_R_shX_117 : decode b_R_shX 117 = .ok (.aload_n 0, 1) := by decide +kernel
theorem d_R_shX_118 : decode b_R_shX 118 = .ok (.aload_n 0, 1) := by decide +kernel
theorem d_R_shX_119 : decode b_R_shX 119 = .ok (.getfield 49, 3) := by decide +kernel
theorem d_R_shX_122 : decode b_R_shX 122 = .ok (.iconst 2, 1) := by decide +kernel
theorem d_R_shX_123 : decode b_R_shX 123 = .ok (.iload_n 1, 1) := by decide +kernel
theorem d_R_shX_124 : decode b_R_shX 124 = .ok (.imul, 1) := by decide +kernel
theorem d_R_shX_125 : decode b_R_shX 125 = .ok (.i2l, 1) := by decide +kernel
theorem d_R_shX_126 : decode b_R_shX 126 = .ok (.aload_n 0, 1) := by decide +kernel
theorem d_R_shX_127 : decode b_R_shX 127 = .ok (.getfield 45, 3) := by decide +kernel
theorem d_R_shX_130 : decode b_R_shX 130 = .ok (.lmul, 1) := by decide +kernel
theorem d_R_shX_131 : decode b_R_shX 131 = .ok (.lsub, 1) := by decide +kernel
theorem d_R_shX_132 : decode b_R_shX 132 = .ok (.putfield 49, 3) := by decide +kernel
theorem d_R_shX_135 : decode b_R_shX 135 = .ok (.iconst 1, 1) := by decide +kernel
theorem d_R_shX_136 : decode b_R_shX 136 = .ok (.ireturn, 1) := by decide +kernel
theorem d_R_shX_137 : decode b_R_shX 137 = .ok (.iconst 0, 1) := by decide +kernel
theorem d_R_shX_138 : decode b_R_shX 138 = .ok (.ireturn, 1) := by decide +kernel
theorem d_R_shY_0 : decode b_R_shY 0 = .ok (.aload_n 0, 1) := by decide +kernel
theorem d_R_shY_1 : decode b_R_shY 1 = .ok (.getfield 52, 3) := by decide +kernel
theorem d_R_shY_4 : decode b_R_shY 4 = .ok (.invokestatic 84, 3) := by decide +kernel
theorem d_R_shY_7 : decode b_R_shY 7 = .ok (.aload_n 0, 1) := by decide +kernel
theorem d_R_shY_8 : decode b_R_shY 8 = .ok (.getfield 44, 3) := by decide +kernel
theorem d_R_shY_11 : decode b_R_shY 11 = .ok (.lcmp, 1) := by decide +kernel
theorem d_R_shY_12 : decode b_R_shY 12 = .ok (.ifCond .gt 53, 3) := by decide +kernel
theorem d_R_shY_15 : decode b_R_shY 15 = .ok (.aload_n 0, 1) := by decide +kernel
theorem d_R_shY_16 : decode b_R_shY 16 = .ok (.getfield 52, 3) := by decide +kernel
theorem d_R_shY_19 : decode b_R_shY 19 = .ok (.aload_n 0, 1) := by decide +kernel
theorem d_R_shY_20 : decode b_R_shY 20 = .ok (.getfield 44, 3) := by decide +kernel
theorem d_R_shY_23 : decode b_R_shY 23 = .ok (.lcmp, 1) := by decide +kernel
theorem d_R_shY_24 : decode b_R_shY 24 = .ok (.ifCond .ne 19, 3) := by decide +kernel
theorem d_R_shY_27 : decode b_R_shY 27 = .ok (.ldc2_w 47, 3) := by decide +kernel
theorem d_R_shY_30 : decode b_R_shY 30 = .ok (.aload_n 0, 1) := by decide +kernel
theorem d_R_shY_31 : decode b_R_shY 31 = .ok (.getfield 49, 3) := by decide +kernel
theorem d_R_shY_34 : decode b_R_shY 34 = .ok (.lmul, 1) := by decide +kernel
theorem d_R_shY_35 : decode b_R_shY 35 = .ok (.aload_n 0, 1) := by decide +kernel
theorem d_R_shY_36 : decode b_R_shY 36 = .ok (.getfield 55, 3) := by decide +kernel
theorem d_R_shY_39 : decode b_R_shY 39 = .ok (.lcmp, 1) := by decide +kernel
theorem d_R_shY_40 : decode b_R_shY 40 = .ok (.ifCond .lt 25, 3) := by decide +kernel
theorem d_R_shY_43 : decode b_R_shY 43 = .ok (.aload_n 0, 1) := by decide +kernel
theorem d_R_shY_44 : decode b_R_shY 44 = .ok (.getfield 52, 3) := by decide +kernel
theorem d_R_shY_47 : decode b_R_shY 47 = .ok (.aload_n 0, 1) := by decide +kernel
theorem d_R_shY_48 : decode b_R_shY 48 = .ok (.getfield 44, 3) := by decide +kernel
theorem d_R_shY_51 : decode b_R_shY 51 = .ok (.lneg, 1) := by decide +kernel
theorem d_R_shY_52 : decode b_R_shY 52 = .ok (.lcmp, 1) := by decide +kernel
theorem d_R_shY_53 : decode b_R_shY 53 = .ok (.ifCond .ne 84, 3) := by decide +kernel
theorem d_R_shY_56 : decode b_R_shY 56 = .ok (.aload_n 0, 1) := by decide +kernel
theorem d_R_shY_57 : decode b_R_shY 57 = .ok (.getfield 55, 3) := by decide +kernel
theorem d_R_shY_60 : decode b_R_shY 60 = .ok (.lconst 0, 1) := by decide +kernel
theorem d_R_shY_61 : decode b_R_shY 61 = .ok (.lcmp, 1) := by decide +kernel
theorem d_R_shY_62 : decode b_R_shY 62 = .ok (.ifCond .ge 75, 3) := by decide +kernel
theorem d_R_shY_65 : decode b_R_shY 65 = .ok (.aload_n 0, 1) := by decide +kernel
theorem d_R_shY_66 : decode b_R_shY 66 = .ok (.getfield 52, 3) := by decide +kernel
theorem d_R_shY_69 : decode b_R_shY 69 = .ok (.lconst 0, 1) := by decide +kernel
theorem d_R_shY_70 : decode b_R_shY 70 = .ok (.lcmp, 1) := by decide +kernel
theorem d_R_shY_71 : decode b_R_shY 71 = .ok (.ifCond .le 7, 3) := by decide +kernel
theorem d_R_shY_74 : decode b_R_shY 74 = .ok (.iconst 1, 1) := by decide +kernel
theorem d_R_shY_75 : decode b_R_shY 75 = .ok (.goto 4, 3) := by decide +kernel
theorem d_R_shY_78 : decode b_R_shY 78 = .ok (.iconst (-1), 1) := by decide +kernel
theorem d_R_shY_79 : decode b_R_shY 79 = .ok (.istore_n 1, 1) := by decide +kernel
theorem d_R_shY_80 : decode b_R_shY 80 = .ok (.aload_n 0, 1) := by decide +kernel
theorem d_R_shY_81 : decode b_R_shY 81 = .ok (.aload_n 0, 1) := by decide +kernel
theorem d_R_shY_82 : decode b_R_shY 82 = .ok (.getfield 44, 3) := by decide +kernel
theorem d_R_shY_85 : decode b_R_shY 85 = .ok (.aload_n 0, 1) := by decide +kernel
theorem d_R_shY_86 : decode b_R_shY 86 = .ok (.getfield 46, 3) := by decide +kernel
theorem d_R_shY_89 : decode b_R_shY 89 = .ok (.ladd, 1) := by decide +kernel
theorem d_R_shY_90 : decode b_R_shY 90 = .ok (.iload_n 1, 1) := by decide +kernel
theorem d_R_shY_91 : decode b_R_shY 91 = .ok (.i2l, 1) := by decide +kernel
theorem d_R_shY_92 : decode b_R_shY 92 = .ok (.aload_n 0, 1) := by decide +kernel
theorem d_R_shY_93 : decode b_R_shY 93 = .ok (.getfield 52, 3) := by decide +kernel
theorem d_R_shY_96 : decode b_R_shY 96 = .ok (.lmul, 1) := by decide +kernel
theorem d_R_shY_97 : decode b_R_shY 97 = .ok (.lsub, 1) := by decide +kernel
theorem d_R_shY_98 : decode b_R_shY 98 = .ok (.putfield 46, 3) := by decide +kernel
theorem d_R_shY_101 : decode b_R_shY 101 = .ok (.aload_n 0, 1) := by decide +kernel
theorem d_R_shY_102 : decode b_R_shY 102 = .ok (.aload_n 0, 1) := by decide +kernel
theorem d_R_shY_103 : decode b_R_shY 103 = .ok (.getfield 49, 3) := by decide +kernel
theorem d_R_shY_106 : decode b_R_shY 106 = .ok (.iload_n 1, 1) := by decide +kernel
theorem d_R_shY_107 : decode b_R_shY 107 = .ok (.i2l, 1) := by decide +kernel
theorem d_R_shY_108 : decode b_R_shY 108 = .ok (.aload_n 0, 1) := by decide +kernel
theorem d_R_shY_109 : decode b_R_shY 109 = .ok (.getfield 55, 3) := by decide +kernel
theorem d_R_shY_112 : decode b_R_shY 112 = .ok (.lmul, 1) := by decide +kernel
theorem d_R_shY_113 : decode b_R_shY 113 = .ok (.lsub, 1) := by decide +kernel
theorem d_R_shY_114 : decode b_R_shY 114 = .ok (.putfield 49, 3) := by decide +kernel
theorem d_R_shY_117 : decode b_R_shY 117 = .ok (.aload_n 0, 1) := by decide +kernel
theorem d_R_shY_118 : decode b_R_shY 118 = .ok (.aload_n 0, 1) := by decide +kernel
theorem d_R_shY_119 : decode b_R_shY 119 = .ok (.getfield 52, 3) := by decide +kernel
theorem d_R_shY_122 : decode b_R_shY 122 = .ok (.iconst 2, 1) := by decide +kernel
theorem d_R_shY_123 : decode b_R_shY 123 = .ok (.iload_n 1, 1) := by decide +kernel
theorem d_R_shY_124 : decode b_R_shY 124 = .ok (.imul, 1) := by decide +kernel
theorem d_R_shY_125 : decode b_R_shY 125 = .ok (.i2l, 1) := by decide +kernel
theorem d_R_shY_126 : decode b_R_shY 126 = .ok (.aload_n 0, 1) := by decide +kernel
theorem d_R_shY_127 : decode b_R_shY 127 = .ok (.getfield 44, 3) := by decide +kernel
theorem d_R_shY_130 : decode b_R_shY 130 = .ok (.lmul, 1) := by decide +kernel
theorem d_R_shY_131 : decode b_R_shY 131 = .ok (.lsub, 1) := by decide +kernel
theorem d_R_shY_132 : decode b_R_shY 132 = .ok (.putfield 52, 3) := by decide +kernel
theorem d_R_shY_135 : decode b_R_shY 135 = .ok (.iconst 1, 1) := by decide +kernel
theorem d_R_shY_136 : decode b_R_shY 136 = .ok (.ireturn, 1) := by decide +kernel
theorem d_R_shY_137 : decode b_R_shY 137 = .ok (.iconst 0, 1) := by decide +kernel
theorem d_R_shY_138 : decode b_R_shY 138 = .ok (.ireturn, 1) := by decide +kernel
theorem d_R_shZ_0 : decode b_R_shZ 0 = .ok (.aload_n 0, 1) := by decide +kernel
theorem d_R_shZ_1 : decode b_R_shZ 1 = .ok (.getfield 55, 3) := by decide +kernel
theorem d_R_shZ_4 : decode b_R_shZ 4 = .ok (.invokestatic 84, 3) := by decide +kernel
theorem d_R_shZ_7 : decode b_R_shZ 7 = .ok (.aload_n 0, 1) := by decide +kernel
theorem d_R_shZ_8 : decode b_R_shZ 8 = .ok (.getfield 44, 3) := by decide +kernel
theorem d_R_shZ_11 : decode b_R_shZ 11 = .ok (.lcmp, 1) := by decide +kernel
theorem d_R_shZ_12 : decode b_R_shZ 12 = .ok (.ifCond .gt 53, 3) := by decide +kernel
theorem d_R_shZ_15 : decode b_R_shZ 15 = .ok (.aload_n 0, 1) := by decide +kernel
theorem d_R_shZ_16 : decode b_R_shZ 16 = .ok (.getfield 55, 3) := by decide +kernel
theorem d_R_shZ_19 : decode b_R_shZ 19 = .ok (.aload_n 0, 1) := by decide +kernel
theorem d_R_shZ_20 : decode b_R_shZ 20 = .ok (.getfield 44, 3) := by decide +kernel
theorem d_R_shZ_23 : decode b_R_shZ 23 = .ok (.lcmp, 1) := by decide +kernel
theorem d_R_shZ_24 : decode b_R_shZ 24 = .ok (.ifCond .ne 19, 3) := by decide +kernel
theorem d_R_shZ_27 : decode b_R_shZ 27 = .ok (.ldc2_w 47, 3) := by decide +kernel
theorem d_R_shZ_30 : decode b_R_shZ 30 = .ok (.aload_n 0, 1) := by decide +kernel
theorem d_R_shZ_31 : decode b_R_shZ 31 = .ok (.getfield 49, 3) := by decide +kernel
theorem d_R_shZ_34 : decode b_R_shZ 34 = .ok (.lmul, 1) := by decide +kernel
theorem d_R_shZ_35 : decode b_R_shZ 35 = .ok (.aload_n 0, 1) := by decide +kernel
theorem d_R_shZ_36 : decode b_R_shZ 36 = .ok (.getfield 52, 3) := by decide +kernel
theorem d_R_shZ_39 : decode b_R_shZ 39 = .ok (.lcmp, 1) := by decide +kernel
theorem d_R_shZ_40 : decode b_R_shZ 40 = .ok (.ifCond .lt 25, 3) := by decide +kernel
theorem d_R_shZ_43 : decode b_R_shZ 43 = .ok (.aload_n 0, 1) := by decide +kernel
theorem d_R_shZ_44 : decode b_R_shZ 44 = .ok (.getfield 55, 3) := by decide +kernel
theorem d_R_shZ_47 : decode b_R_shZ 47 = .ok (.aload_n 0, 1) := by decide +kernel
theorem d_R_shZ_48 : decode b_R_shZ 48 = .ok (.getfield 44, 3) := by decide +kernel
theorem d_R_shZ_51 : decode b_R_shZ 51 = .ok (.lneg, 1) := by decide +kernel
theorem d_R_shZ_52 : decode b_R_shZ 52 = .ok (.lcmp, 1) := by decide +kernel
theorem d_R_shZ_53 : decode b_R_shZ 53 = .ok (.ifCond .ne 84, 3) := by decide +kernel
theorem d_R_shZ_56 : decode b_R_shZ 56 = .ok (.aload_n 0, 1) := by decide +kernel
theorem d_R_shZ_57 : decode b_R_shZ 57 = .ok (.getfield 52, 3) := by decide +kernel
theorem d_R_shZ_60 : decode b_R_shZ 60 = .ok (.lconst 0, 1) := by decide +kernel
theorem d_R_shZ_61 : decode b_R_shZ 61 = .ok (.lcmp, 1) := by decide +kernel
theorem d_R_shZ_62 : decode b_R_shZ 62 = .ok (.ifCond .ge 75, 3) := by decide +kernel
theorem d_R_shZ_65 : decode b_R_shZ 65 = .ok (.aload_n 0, 1) := by decide +kernel
theorem d_R_shZ_66 : decode b_R_shZ 66 = .ok (.getfield 55, 3) := by decide +kernel
theorem d_R_shZ_69 : decode b_R_shZ 69 = .ok (.lconst 0, 1) := by decide +kernel
theorem d_R_shZ_70 : decode b_R_shZ 70 = .ok (.lcmp, 1) := by decide +kernel
theorem d_R_shZ_71 : decode b_R_shZ 71 = .ok (.ifCond .le 7, 3) := by decide +kernel
theorem d_R_shZ_74 : decode b_R_shZ 74 = .ok (.iconst 1, 1) := by decide +kernel
theorem d_R_shZ_75 : decode b_R_shZ 75 = .ok (.goto 4, 3) := by decide +kernel
theorem d_R_shZ_78 : decode b_R_shZ 78 = .ok (.iconst (-1), 1) := by decide +kernel
theorem d_R_shZ_79 : decode b_R_shZ 79 = .ok (.istore_n 1, 1) := by decide +kernel
theorem d_R_shZ_80 : decode b_R_shZ 80 = .ok (.aload_n 0, 1) := by decide +kernel
theorem d_R_shZ_81 : decode b_R_shZ 81 = .ok (.aload_n 0, 1) := by decide +kernel
theorem d_R_shZ_82 : decode b_R_shZ 82 = .ok (.getfield 44, 3) := by decide +kernel
theorem d_R_shZ_85 : decode b_R_shZ 85 = .ok (.aload_n 0, 1) := by decide +kernel
theorem d_R_shZ_86 : decode b_R_shZ 86 = .ok (.getfield 45, 3) := by decide +kernel
theorem d_R_shZ_89 : decode b_R_shZ 89 = .ok (.ladd, 1) := by decide +kernel
theorem d_R_shZ_90 : decode b_R_shZ 90 = .ok (.iload_n 1, 1) := by decide +kernel
theorem d_R_shZ_91 : decode b_R_shZ 91 = .ok (.i2l, 1) := by decide +kernel
theorem d_R_shZ_92 : decode b_R_shZ 92 = .ok (.aload_n 0, 1) := by decide +kernel
theorem d_R_shZ_93 : decode b_R_shZ 93 = .ok (.getfield 55, 3) := by decide +kernel
theorem d_R_shZ_96 : decode b_R_shZ 96 = .ok (.lmul, 1) := by decide +kernel
theorem d_R_shZ_97 : decode b_R_shZ 97 = .ok (.lsub, 1) := by decide +kernel
theorem d_R_shZ_98 : decode b_R_shZ 98 = .ok (.putfield 45, 3) := by decide +kernel
theorem d_R_shZ_101 : decode b_R_shZ 101 = .ok (.aload_n 0, 1) := by decide +kernel
theorem d_R_shZ_102 : decode b_R_shZ 102 = .ok (.aload_n 0, 1) := by decide +kernel
theorem d_R_shZ_103 : decode b_R_shZ 103 = .ok (.getfield 49, 3) := by decide +kernel
theorem d_R_shZ_106 : decode b_R_shZ 106 = .ok (.iload_n 1, 1) := by decide +kernel
theorem d_R_shZ_107 : decode b_R_shZ 107 = .ok (.i2l, 1) := by decide +kernel
theorem d_R_shZ_108 : decode b_R_shZ 108 = .ok (.aload_n 0, 1) := by decide +kernel
theorem d_R_shZ_109 : decode b_R_shZ 109 = .ok (.getfield 52, 3) := by decide +kernel
theorem d_R_shZ_112 : decode b_R_shZ 112 = .ok (.lmul, 1) := by decide +kernel
theorem d_R_shZ_113 : decode b_R_shZ 113 = .ok (.lsub, 1) := by decide +kernel
theorem d_R_shZ_114 : decode b_R_shZ 114 = .ok (.putfield 49, 3) := by decide +kernel
theorem d_R_shZ_117 : decode b_R_shZ 117 = .ok (.aload_n 0, 1) := by decide +kernel
theorem d_R_shZ_118 : decode b_R_shZ 118 = .ok (.aload_n 0, 1) := by decide +kernel
theorem d_R_shZ_119 : decode b_R_shZ 119 = .ok (.getfield 55, 3) := by decide +kernel
theorem d_R_shZ_122 : decode b_R_shZ 122 = .ok (.iconst 2, 1) := by decide +kernel
theorem d_R_shZ_123 : decode b_R_shZ 123 = .ok (.iload_n 1, 1) := by decide +kernel
theorem d_R_shZ_124 : decode b_R_shZ 124 = .ok (.imul, 1) := by decide +kernel
theorem d_R_shZ_125 : decode b_R_shZ 125 = .ok (.i2l, 1) := by decide +kernel
theorem d_R_shZ_126 : decode b_R_shZ 126 = .ok (.aload_n 0, 1) := by decide +kernel
theorem d_R_shZ_127 : decode b_R_shZ 127 = .ok (.getfield 44, 3) := by decide +kernel
theorem d_R_shZ_130 : decode b_R_shZ 130 = .ok (.lmul, 1) := by decide +kernel
theorem d_R_shZ_131 : decode b_R_shZ 131 = .ok (.lsub, 1) := by decide +kernel
theorem d_R_shZ_132 : decode b_R_shZ 132 = .ok (.putfield 55, 3) := by decide +kernel
theorem d_R_shZ_135 : decode b_R_shZ 135 = .ok (.iconst 1, 1) := by decide +kernel
theorem d_R_shZ_136 : decode b_R_shZ 136 = .ok (.ireturn, 1) := by decide +kernel
theorem d_R_shZ_137 : decode b_R_shZ 137 = .ok (.iconst 0, 1) := by decide +kernel
theorem d_R_shZ_138 : decode b_R_shZ 138 = .ok (.ireturn, 1) := by decide +kernel
theorem d_R_shS_0 : decode b_R_shS 0 = .ok (.aload_n 0, 1) := by decide +kernel
theorem d_R_shS_1 : decode b_R_shS 1 = .ok (.getfield 49, 3) := by decide +kernel
theorem d_R_shS_4 : decode b_R_shS 4 = .ok (.aload_n 0, 1) := by decide +kernel
theorem d_R_shS_5 : decode b_R_shS 5 = .ok (.getfield 52, 3) := by decide +kernel
theorem d_R_shS_8 : decode b_R_shS 8 = .ok (.ladd, 1) := by decide +kernel
theorem d_R_shS_9 : decode b_R_shS 9 = .ok (.aload_n 0, 1) := by decide +kernel
theorem d_R_shS_10 : decode b_R_shS 10 = .ok (.getfield 55, 3) := by decide +kernel
theorem d_R_shS_13 : decode b_R_shS 13 = .ok (.ladd, 1) := by decide +kernel
theorem d_R_shS_14 : decode b_R_shS 14 = .ok (.aload_n 0, 1) := by decide +kernel
theorem d_R_shS_15 : decode b_R_shS 15 = .ok (.getfield 44, 3) := by decide +kernel
theorem d_R_shS_18 : decode b_R_shS 18 = .ok (.ladd, 1) := by decide +kernel
theorem d_R_shS_19 : decode b_R_shS 19 = .ok (.aload_n 0, 1) := by decide +kernel
theorem d_R_shS_20 : decode b_R_shS 20 = .ok (.getfield 45, 3) := by decide +kernel
theorem d_R_shS_23 : decode b_R_shS 23 = .ok (.ladd, 1) := by decide +kernel
theorem d_R_shS_24 : decode b_R_shS 24 = .ok (.lstore_n 1, 1) := by decide +kernel
theorem d_R_shS_25 : decode b_R_shS 25 = .ok (.lload_n 1, 1) := by decide +kernel
theorem d_R_shS_26 : decode b_R_shS 26 = .ok (.lconst 0, 1) := by decide +kernel
theorem d_R_shS_27 : decode b_R_shS 27 = .ok (.lcmp, 1) := by decide +kernel
theorem d_R_shS_28 : decode b_R_shS 28 = .ok (.ifCond .lt 32, 3) := by decide +kernel
theorem d_R_shS_31 : decode b_R_shS 31 = .ok (.lload_n 1, 1) := by decide +kernel
theorem d_R_shS_32 : decode b_R_shS 32 = .ok (.lconst 0, 1) := by decide +kernel
theorem d_R_shS_33 : decode b_R_shS 33 = .ok (.lcmp, 1) := by decide +kernel
theorem d_R_shS_34 : decode b_R_shS 34 = .ok (.ifCond .ne 82, 3) := by decide +kernel
theorem d_R_shS_37 : decode b_R_shS 37 = .ok (.ldc2_w 47, 3) := by decide +kernel
theorem d_R_shS_40 : decode b_R_shS 40 = .ok (.aload_n 0, 1) := by decide +kernel
theorem d_R_shS_41 : decode b_R_shS 41 = .ok (.getfield 44, 3) := by decide +kernel
theorem d_R_shS_44 : decode b_R_shS 44 = .ok (.aload_n 0, 1) := by decide +kernel
theorem d_R_shS_45 : decode b_R_shS 45 = .ok (.getfield 52, 3) := by decide +kernel
theorem d_R_shS_48 : decode b_R_shS 48 = .ok (.ladd, 1) := by decide +kernel
theorem d_R_shS_49 : decode b_R_shS 49 = .ok (.lmul, 1) := by decide +kernel
theorem d_R_shS_50 : decode b_R_shS 50 = .ok (.aload_n 0, 1) := by decide +kernel
theorem d_R_shS_51 : decode b_R_shS 51 = .ok (.getfield 55, 3) := by decide +kernel
theorem d_R_shS_54 : decode b_R_shS 54 = .ok (.ladd, 1) := by decide +kernel
theorem d_R_shS_55 : decode b_R_shS 55 = .ok (.lconst 0, 1) := by decide +kernel
theorem d_R_shS_56 : decode b_R_shS 56 = .ok (.lcmp, 1) := by decide +kernel
theorem d_R_shS_57 : decode b_R_shS 57 = .ok (.ifCond .le 59, 3) := by decide +kernel
theorem d_R_shS_60 : decode b_R_shS 60 = .ok (.aload_n 0, 1) := by decide +kernel
theorem d_R_shS_61 : decode b_R_shS 61 = .ok (.aload_n 0, 1) := by decide +kernel
theorem d_R_shS_62 : decode b_R_shS 62 = .ok (.getfield 46, 3) := by decide +kernel
theorem d_R_shS_65 : decode b_R_shS 65 = .ok (.lload_n 1, 1) := by decide +kernel
theorem d_R_shS_66 : decode b_R_shS 66 = .ok (.ladd, 1) := by decide +kernel
theorem d_R_shS_67 : decode b_R_shS 67 = .ok (.putfield 46, 3) := by decide +kernel
theorem d_R_shS_70 : decode b_R_shS 70 = .ok (.aload_n 0, 1) := by decide +kernel
theorem d_R_shS_71 : decode b_R_shS 71 = .ok (.ldc2_w 47, 3) := by decide +kernel
theorem d_R_shS_74 : decode b_R_shS 74 = .ok (.aload_n 0, 1) := by decide +kernel
theorem d_R_shS_75 : decode b_R_shS 75 = .ok (.getfield 45, 3) := by decide +kernel
theorem d_R_shS_78 : decode b_R_shS 78 = .ok (.lmul, 1) := by decide +kernel
theorem d_R_shS_79 : decode b_R_shS 79 = .ok (.aload_n 0, 1) := by decide +kernel
theorem d_R_shS_80 : decode b_R_shS 80 = .ok (.getfield 49, 3) := by decide +kernel
theorem d_R_shS_83 : decode b_R_shS 83 = .ok (.ladd, 1) := by decide +kernel
theorem d_R_shS_84 : decode b_R_shS 84 = .ok (.aload_n 0, 1) := by decide +kernel
theorem d_R_shS_85 : decode b_R_shS 85 = .ok (.getfield 55, 3) := by decide +kernel
theorem d_R_shS_88 : decode b_R_shS 88 = .ok (.ladd, 1) := by decide +kernel
theorem d_R_shS_89 : decode b_R_shS 89 = .ok (.putfield 49, 3) := by decide +kernel
theorem d_R_shS_92 : decode b_R_shS 92 = .ok (.aload_n 0, 1) := by decide +kernel
theorem d_R_shS_93 : decode b_R_shS 93 = .ok (.ldc2_w 47, 3) := by decide +kernel
theorem d_R_shS_96 : decode b_R_shS 96 = .ok (.aload_n 0, 1) := by decide +kernel
theorem d_R_shS_97 : decode b_R_shS 97 = .ok (.getfield 44, 3) := by decide +kernel
theorem d_R_shS_100 : decode b_R_shS 100 = .ok (.lmul, 1) := by decide +kernel
theorem d_R_shS_101 : decode b_R_shS 101 = .ok (.aload_n 0, 1) := by decide +kernel
theorem d_R_shS_102 : decode b_R_shS 102 = .ok (.getfield 52, 3) := by decide +kernel
theorem d_R_shS_105 : decode b_R_shS 105 = .ok (.ladd, 1) := by decide +kernel
theorem d_R_shS_106 : decode b_R_shS 106 = .ok (.aload_n 0, 1) := by decide +kernel
theorem d_R_shS_107 : decode b_R_shS 107 = .ok (.getfield 55, 3) := by decide +kernel
theorem d_R_shS_110 : decode b_R_shS 110 = .ok (.ladd, 1) := by decide +kernel
theorem d_R_shS_111 : decode b_R_shS 111 = .ok (.putfield 52, 3) := by decide +kernel
theorem d_R_shS_114 : decode b_R_shS 114 = .ok (.iconst 1, 1) := by decide +kernel
theorem d_R_shS_115 : decode b_R_shS 115 = .ok (.ireturn, 1) := by decide +kernel
theorem d_R_shS_116 : decode b_R_shS 116 = .ok (.iconst 0, 1) := by decide +kernel
theorem d_R_shS_117 : decode b_R_shS 117 = .ok (.ireturn, 1) := by decide +kernel
