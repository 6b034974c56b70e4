theorem d_R_init_0 : decode b_R_init 0 = .ok (.aload_n 0, 1) := by decide +kernel
theorem d_R_init_1 : decode b_R_init 1 = .ok (.invokespecial 1, 3) := by decide +kernel
theorem d_R_init_4 : decode b_R_init 4 = .ok (.aload_n 0, 1) := by decide +kernel
theorem d_R_init_5 : decode b_R_init 5 = .ok (.iconst 0, 1) := by decide +kernel
theorem d_R_init_6 : decode b_R_init 6 = .ok (.putfield 7, 3) := by decide +kernel
theorem d_R_init_9 : decode b_R_init 9 = .ok (.return_, 1) := by decide +kernel
theorem d_R_setSq_0 : decode b_R_setSq 0 = .ok (.aload_n 0, 1) := by decide +kernel
theorem d_R_setSq_1 : decode b_R_setSq 1 = .ok (.lload_n 1, 1) := by decide +kernel
theorem d_R_setSq_2 : decode b_R_setSq 2 = .ok (.putfield 44, 3) := by decide +kernel
theorem d_R_setSq_5 : decode b_R_setSq 5 = .ok (.aload_n 0, 1) := by decide +kernel
theorem d_R_setSq_6 : decode b_R_setSq 6 = .ok (.lload_n 3, 1) := by decide +kernel
theorem d_R_setSq_7 : decode b_R_setSq 7 = .ok (.putfield 45, 3) := by decide +kernel
theorem d_R_setSq_10 : decode b_R_setSq 10 = .ok (.aload_n 0, 1) := by decide +kernel
theorem d_R_setSq_11 : decode b_R_setSq 11 = .ok (.lload 5, 2) := by decide +kernel
theorem d_R_setSq_13 : decode b_R_setSq 13 = .ok (.putfield 46, 3) := by decide +kernel
theorem d_R_setSq_16 : decode b_R_setSq 16 = .ok (.return_, 1) := by decide +kernel
theorem d_R_setMx_0 : decode b_R_setMx 0 = .ok (.aload_n 0, 1) := by decide +kernel
theorem d_R_setMx_1 : decode b_R_setMx 1 = .ok (.ldc2_w 47, 3) := by decide +kernel
theorem d_R_setMx_4 : decode b_R_setMx 4 = .ok (.lload_n 1, 1) := by decide +kernel
theorem d_R_setMx_5 : decode b_R_setMx 5 = .ok (.lmul, 1) := by decide +kernel
theorem d_R_setMx_6 : decode b_R_setMx 6 = .ok (.putfield 49, 3) := by decide +kernel
theorem d_R_setMx_9 : decode b_R_setMx 9 = .ok (.aload_n 0, 1) := by decide +kernel
theorem d_R_setMx_10 : decode b_R_setMx 10 = .ok (.ldc2_w 47, 3) := by decide +kernel
theorem d_R_setMx_13 : decode b_R_setMx 13 = .ok (.lload_n 3, 1) := by decide +kernel
theorem d_R_setMx_14 : decode b_R_setMx 14 = .ok (.lmul, 1) := by decide +kernel
theorem d_R_setMx_15 : decode b_R_setMx 15 = .ok (.putfield 52, 3) := by decide +kernel
theorem d_R_setMx_18 : decode b_R_setMx 18 = .ok (.aload_n 0, 1) := by decide +kernel
theorem d_R_setMx_19 : decode b_R_setMx 19 = .ok (.ldc2_w 47, 3) := by decide +kernel
theorem d_R_setMx_22 : decode b_R_setMx 22 = .ok (.lload 5, 2) := by decide +kernel
theorem d_R_setMx_24 : decode b_R_setMx 24 = .ok (.lmul, 1) := by decide +kernel
theorem d_R_setMx_25 : decode b_R_setMx 25 = .ok (.putfield 55, 3) := by decide +kernel
theorem d_R_setMx_28 : decode b_R_setMx 28 = .ok (.return_, 1) := by decide +kernel
theorem d_R_shears_0 : decode b_R_shears 0 = .ok (.aload_n 0, 1) := by decide +kernel
theorem d_R_shears_1 : decode b_R_shears 1 = .ok (.getfield 7, 3) := by decide +kernel
theorem d_R_shears_4 : decode b_R_shears 4 = .ok (.ireturn, 1) := by decide +kernel
theorem d_R_at_0 : decode b_R_at 0 = .ok (.iload_n 1, 1) := by decide +kernel
theorem d_R_at_1 : decode b_R_at 1 = .ok (.tableswitch 81 0 5 #[39, 44, 49, 54, 63, 72], 39) := by decide +kernel
theorem d_R_at_40 : decode b_R_at 40 = .ok (.aload_n 0, 1) := by decide +kernel
theorem d_R_at_41 : decode b_R_at 41 = .ok (.getfield 44, 3) := by decide +kernel
theorem d_R_at_44 : decode b_R_at 44 = .ok (.lreturn, 1) := by decide +kernel
theorem d_R_at_45 : decode b_R_at 45 = .ok (.aload_n 0, 1) := by decide +kernel
theorem d_R_at_46 : decode b_R_at 46 = .ok (.getfield 45, 3) := by decide +kernel
theorem d_R_at_49 : decode b_R_at 49 = .ok (.lreturn, 1) := by decide +kernel
theorem d_R_at_50 : decode b_R_at 50 = .ok (.aload_n 0, 1) := by decide +kernel
theorem d_R_at_51 : decode b_R_at 51 = .ok (.getfield 46, 3) := by decide +kernel
theorem d_R_at_54 : decode b_R_at 54 = .ok (.lreturn, 1) := by decide +kernel
theorem d_R_at_55 : decode b_R_at 55 = .ok (.aload_n 0, 1) := by decide +kernel
theorem d_R_at_56 : decode b_R_at 56 = .ok (.getfield 49, 3) := by decide +kernel
theorem d_R_at_59 : decode b_R_at 59 = .ok (.ldc2_w 47, 3) := by decide +kernel
theorem d_R_at_62 : decode b_R_at 62 = .ok (.ldiv, 1) := by decide +kernel
theorem d_R_at_63 : decode b_R_at 63 = .ok (.lreturn, 1) := by decide +kernel
theorem d_R_at_64 : decode b_R_at 64 = .ok (.aload_n 0, 1) := by decide +kernel
theorem d_R_at_65 : decode b_R_at 65 = .ok (.getfield 52, 3) := by decide +kernel
theorem d_R_at_68 : decode b_R_at 68 = .ok (.ldc2_w 47, 3) := by decide +kernel
theorem d_R_at_71 : decode b_R_at 71 = .ok (.ldiv, 1) := by decide +kernel
theorem d_R_at_72 : decode b_R_at 72 = .ok (.lreturn, 1) := by decide +kernel
theorem d_R_at_73 : decode b_R_at 73 = .ok (.aload_n 0, 1) := by decide +kernel
theorem d_R_at_74 : decode b_R_at 74 = .ok (.getfield 55, 3) := by decide +kernel
theorem d_R_at_77 : decode b_R_at 77 = .ok (.ldc2_w 47, 3) := by decide +kernel
theorem d_R_at_80 : decode b_R_at 80 = .ok (.ldiv, 1) := by decide +kernel
theorem d_R_at_81 : decode b_R_at 81 = .ok (.lreturn, 1) := by decide +kernel
theorem d_R_at_82 : decode b_R_at 82 = .ok (.lconst 0, 1) := by decide +kernel
theorem d_R_at_83 : decode b_R_at 83 = .ok (.lreturn, 1) := by decide +kernel
theorem d_R_ord1_0 : decode b_R_ord1 0 = .ok (.aload_n 0, 1) := by decide +kernel
theorem d_R_ord1_1 : decode b_R_ord1 1 = .ok (.getfield 44, 3) := by decide +kernel
theorem d_R_ord1_4 : decode b_R_ord1 4 = .ok (.aload_n 0, 1) := by decide +kernel
theorem d_R_ord1_5 : decode b_R_ord1 5 = .ok (.getfield 45, 3) := by decide +kernel
theorem d_R_ord1_8 : decode b_R_ord1 8 = .ok (.lcmp, 1) := by decide +kernel
theorem d_R_ord1_9 : decode b_R_ord1 9 = .ok (.ifCond .gt 33, 3) := by decide +kernel
theorem d_R_ord1_12 : decode b_R_ord1 12 = .ok (.aload_n 0, 1) := by decide +kernel
theorem d_R_ord1_13 : decode b_R_ord1 13 = .ok (.getfield 44, 3) := by decide +kernel
theorem d_R_ord1_16 : decode b_R_ord1 16 = .ok (.aload_n 0, 1) := by decide +kernel
theorem d_R_ord1_17 : decode b_R_ord1 17 = .ok (.getfield 45, 3) := by decide +kernel
theorem d_R_ord1_20 : decode b_R_ord1 20 = .ok (.lcmp, 1) := by decide +kernel
theorem d_R_ord1_21 : decode b_R_ord1 21 = .ok (.ifCond .ne 57, 3) := by decide +kernel
theorem d_R_ord1_24 : decode b_R_ord1 24 = .ok (.aload_n 0, 1) := by decide +kernel
theorem d_R_ord1_25 : decode b_R_ord1 25 = .ok (.getfield 49, 3) := by decide +kernel
theorem d_R_ord1_28 : decode b_R_ord1 28 = .ok (.invokestatic 84, 3) := by decide +kernel
theorem d_R_ord1_31 : decode b_R_ord1 31 = .ok (.aload_n 0, 1) := by decide +kernel
theorem d_R_ord1_32 : decode b_R_ord1 32 = .ok (.getfield 52, 3) := by decide +kernel
theorem d_R_ord1_35 : decode b_R_ord1 35 = .ok (.invokestatic 84, 3) := by decide +kernel
theorem d_R_ord1_38 : decode b_R_ord1 38 = .ok (.lcmp, 1) := by decide +kernel
theorem d_R_ord1_39 : decode b_R_ord1 39 = .ok (.ifCond .le 39, 3) := by decide +kernel
theorem d_R_ord1_42 : decode b_R_ord1 42 = .ok (.aload_n 0, 1) := by decide +kernel
theorem d_R_ord1_43 : decode b_R_ord1 43 = .ok (.getfield 44, 3) := by decide +kernel
theorem d_R_ord1_46 : decode b_R_ord1 46 = .ok (.lstore_n 1, 1) := by decide +kernel
theorem d_R_ord1_47 : decode b_R_ord1 47 = .ok (.aload_n 0, 1) := by decide +kernel
theorem d_R_ord1_48 : decode b_R_ord1 48 = .ok (.aload_n 0, 1) := by decide +kernel
theorem d_R_ord1_49 : decode b_R_ord1 49 = .ok (.getfield 45, 3) := by decide +kernel
theorem d_R_ord1_52 : decode b_R_ord1 52 = .ok (.putfield 44, 3) := by decide +kernel
theorem d_R_ord1_55 : decode b_R_ord1 55 = .ok (.aload_n 0, 1) := by decide +kernel
theorem d_R_ord1_56 : decode b_R_ord1 56 = .ok (.lload_n 1, 1) := by decide +kernel
theorem d_R_ord1_57 : decode b_R_ord1 57 = .ok (.putfield 45, 3) := by decide +kernel
theorem d_R_ord1_60 : decode b_R_ord1 60 = .ok (.aload_n 0, 1) := by decide +kernel
theorem d_R_ord1_61 : decode b_R_ord1 61 = .ok (.getfield 49, 3) := by decide +kernel
theorem d_R_ord1_64 : decode b_R_ord1 64 = .ok (.lstore_n 3, 1) := by decide +kernel
theorem d_R_ord1_65 : decode b_R_ord1 65 = .ok (.aload_n 0, 1) := by decide +kernel
theorem d_R_ord1_66 : decode b_R_ord1 66 = .ok (.aload_n 0, 1) := by decide +kernel
theorem d_R_ord1_67 : decode b_R_ord1 67 = .ok (.getfield 52, 3) := by decide +kernel
theorem d_R_ord1_70 : decode b_R_ord1 70 = .ok (.putfield 49, 3) := by decide +kernel
theorem d_R_ord1_73 : decode b_R_ord1 73 = .ok (.aload_n 0, 1) := by decide +kernel
theorem d_R_ord1_74 : decode b_R_ord1 74 = .ok (.lload_n 3, 1) := by decide +kernel
theorem d_R_ord1_75 : decode b_R_ord1 75 = .ok (.putfield 52, 3) := by decide +kernel
theorem d_R_ord1_78 : decode b_R_ord1 78 = .ok (.return_, 1) := by decide +kernel
theorem d_R_ord2_0 : decode b_R_ord2 0 = .ok (.aload_n 0, 1) := by decide +kernel
theorem d_R_ord2_1 : decode b_R_ord2 1 = .ok (.getfield 45, 3) := by decide +kernel
theorem d_R_ord2_4 : decode b_R_ord2 4 = .ok (.aload_n 0, 1) := by decide +kernel
theorem d_R_ord2_5 : decode b_R_ord2 5 = .ok (.getfield 46, 3) := by decide +kernel
theorem d_R_ord2_8 : decode b_R_ord2 8 = .ok (.lcmp, 1) := by decide +kernel
theorem d_R_ord2_9 : decode b_R_ord2 9 = .ok (.ifCond .gt 33, 3) := by decide +kernel
theorem d_R_ord2_12 : decode b_R_ord2 12 = .ok (.aload_n 0, 1) := by decide +kernel
theorem d_R_ord2_13 : decode b_R_ord2 13 = .ok (.getfield 45, 3) := by decide +kernel
theorem d_R_ord2_16 : decode b_R_ord2 16 = .ok (.aload_n 0, 1) := by decide +kernel
theorem d_R_ord2_17 : decode b_R_ord2 17 = .ok (.getfield 46, 3) := by decide +kernel
theorem d_R_ord2_20 : decode b_R_ord2 20 = .ok (.lcmp, 1) := by decide +kernel
theorem d_R_ord2_21 : decode b_R_ord2 21 = .ok (.ifCond .ne 59, 3) := by decide +kernel
theorem d_R_ord2_24 : decode b_R_ord2 24 = .ok (.aload_n 0, 1) := by decide +kernel
theorem d_R_ord2_25 : decode b_R_ord2 25 = .ok (.getfield 52, 3) := by decide +kernel
theorem d_R_ord2_28 : decode b_R_ord2 28 = .ok (.invokestatic 84, 3) := by decide +kernel
theorem d_R_ord2_31 : decode b_R_ord2 31 = .ok (.aload_n 0, 1) := by decide +kernel
theorem d_R_ord2_32 : decode b_R_ord2 32 = .ok (.getfield 55, 3) := by decide +kernel
theorem d_R_ord2_35 : decode b_R_ord2 35 = .ok (.invokestatic 84, 3) := by decide +kernel
theorem d_R_ord2_38 : decode b_R_ord2 38 = .ok (.lcmp, 1) := by decide +kernel
theorem d_R_ord2_39 : decode b_R_ord2 39 = .ok (.ifCond .le 41, 3) := by decide +kernel
theorem d_R_ord2_42 : decode b_R_ord2 42 = .ok (.aload_n 0, 1) := by decide +kernel
theorem d_R_ord2_43 : decode b_R_ord2 43 = .ok (.getfield 45, 3) := by decide +kernel
theorem d_R_ord2_46 : decode b_R_ord2 46 = .ok (.lstore_n 1, 1) := by decide +kernel
theorem d_R_ord2_47 : decode b_R_ord2 47 = .ok (.aload_n 0, 1) := by decide +kernel
theorem d_R_ord2_48 : decode b_R_ord2 48 = .ok (.aload_n 0, 1) := by decide +kernel
theorem d_R_ord2_49 : decode b_R_ord2 49 = .ok (.getfield 46, 3) := by decide +kernel
theorem d_R_ord2_52 : decode b_R_ord2 52 = .ok (.putfield 45, 3) := by decide +kernel
theorem d_R_ord2_55 : decode b_R_ord2 55 = .ok (.aload_n 0, 1) := by decide +kernel
theorem d_R_ord2_56 : decode b_R_ord2 56 = .ok (.lload_n 1, 1) := by decide +kernel
theorem d_R_ord2_57 : decode b_R_ord2 57 = .ok (.putfield 46, 3) := by decide +kernel
theorem d_R_ord2_60 : decode b_R_ord2 60 = .ok (.aload_n 0, 1) := by decide +kernel
theorem d_R_ord2_61 : decode b_R_ord2 61 = .ok (.getfield 52, 3) := by decide +kernel
theorem d_R_ord2_64 : decode b_R_ord2 64 = .ok (.lstore_n 3, 1) := by decide +kernel
theorem d_R_ord2_65 : decode b_R_ord2 65 = .ok (.aload_n 0, 1) := by decide +kernel
theorem d_R_ord2_66 : decode b_R_ord2 66 = .ok (.aload_n 0, 1) := by decide +kernel
theorem d_R_ord2_67 : decode b_R_ord2 67 = .ok (.getfield 55, 3) := by decide +kernel
theorem d_R_ord2_70 : decode b_R_ord2 70 = .ok (.putfield 52, 3) := by decide +kernel
theorem d_R_ord2_73 : decode b_R_ord2 73 = .ok (.aload_n 0, 1) := by decide +kernel
theorem d_R_ord2_74 : decode b_R_ord2 74 = .ok (.lload_n 3, 1) := by decide +kernel
theorem d_R_ord2_75 : decode b_R_ord2 75 = .ok (.putfield 55, 3) := by decide +kernel
theorem d_R_ord2_78 : decode b_R_ord2 78 = .ok (.iconst 1, 1) := by decide +kernel
theorem d_R_ord2_79 : decode b_R_ord2 79 = .ok (.ireturn, 1) := by decide +kernel
theorem d_R_ord2_80 : decode b_R_ord2 80 = .ok (.iconst 0, 1) := by decide +kernel
theorem d_R_ord2_81 : decode b_R_ord2 81 = .ok (.ireturn, 1) := by decide +kernel
theorem d_R_align_0 : decode b_R_align 0 = .ok (.aload_n 0, 1) := by decide +kernel
theorem d_R_align_1 : decode b_R_align 1 = .ok (.getfield 49, 3) := by decide +kernel
theorem d_R_align_4 : decode b_R_align 4 = .ok (.lconst 0, 1) := by decide +kernel
theorem d_R_align_5 : decode b_R_align 5 = .ok (.invokestatic 90, 3) := by decide +kernel
theorem d_R_align_8 : decode b_R_align 8 = .ok (.aload_n 0, 1) := by decide +kernel
theorem d_R_align_9 : decode b_R_align 9 = .ok (.getfield 52, 3) := by decide +kernel
theorem d_R_align_12 : decode b_R_align 12 = .ok (.lconst 0, 1) := by decide +kernel
theorem d_R_align_13 : decode b_R_align 13 = .ok (.invokestatic 90, 3) := by decide +kernel
theorem d_R_align_16 : decode b_R_align 16 = .ok (.imul, 1) := by decide +kernel
theorem d_R_align_17 : decode b_R_align 17 = .ok (.aload_n 0, 1) := by decide +kernel
theorem d_R_align_18 : decode b_R_align 18 = .ok (.getfield 55, 3) := by decide +kernel
theorem d_R_align_21 : decode b_R_align 21 = .ok (.lconst 0, 1) := by decide +kernel
theorem d_R_align_22 : decode b_R_align 22 = .ok (.invokestatic 90, 3) := by decide +kernel
theorem d_R_align_25 : decode b_R_align 25 = .ok (.imul, 1) := by decide +kernel
theorem d_R_align_26 : decode b_R_align 26 = .ok (.istore_n 1, 1) := by decide +kernel
theorem d_R_align_27 : decode b_R_align 27 = .ok (.iload_n 1, 1) := by decide +kernel
theorem d_R_align_28 : decode b_R_align 28 = .ok (.ifCond .le 7, 3) := by decide +kernel
theorem d_R_align_31 : decode b_R_align 31 = .ok (.iconst 1, 1) := by decide +kernel
theorem d_R_align_32 : decode b_R_align 32 = .ok (.goto 4, 3) := by decide +kernel
theorem d_R_align_35 : decode b_R_align 35 = .ok (.iconst (-1), 1) := by decide +kernel
theorem d_R_align_36 : decode b_R_align 36 = .ok (.istore_n 2, 1) := by decide +kernel
theorem d_R_align_37 : decode b_R_align 37 = .ok (.aload_n 0, 1) := by decide +kernel
theorem d_R_align_38 : decode b_R_align 38 = .ok (.iload_n 2, 1) := by decide +kernel
theorem d_R_align_39 : decode b_R_align 39 = .ok (.i2l, 1) := by decide +kernel
theorem d_R_align_40 : decode b_R_align 40 = .ok (.aload_n 0, 1) := by decide +kernel
theorem d_R_align_41 : decode b_R_align 41 = .ok (.getfield 49, 3) := by decide +kernel
theorem d_R_align_44 : decode b_R_align 44 = .ok (.invokestatic 84, 3) := by decide +kernel
theorem d_R_align_47 : decode b_R_align 47 = .ok (.lmul, 1) := by decide +kernel
theorem d_R_align_48 : decode b_R_align 48 = .ok (.putfield 49, 3) := by decide +kernel
theorem d_R_align_51 : decode b_R_align 51 = .ok (.aload_n 0, 1) := by decide +kernel
theorem d_R_align_52 : decode b_R_align 52 = .ok (.iload_n 2, 1) := by decide +kernel
theorem d_R_align_53 : decode b_R_align 53 = .ok (.i2l, 1) := by decide +kernel
theorem d_R_align_54 : decode b_R_align 54 = .ok (.aload_n 0, 1) := by decide +kernel
theorem d_R_align_55 : decode b_R_align 55 = .ok (.getfield 52, 3) := by decide +kernel
theorem d_R_align_58 : decode b_R_align 58 = .ok (.invokestatic 84, 3) := by decide +kernel
theorem d_R_align_61 : decode b_R_align 61 = .ok (.lmul, 1) := by decide +kernel
theorem d_R_align_62 : decode b_R_align 62 = .ok (.putfield 52, 3) := by decide +kernel
theorem d_R_align_65 : decode b_R_align 65 = .ok (.aload_n 0, 1) := by decide +kernel
theorem d_R_align_66 : decode b_R_align 66 = .ok (.iload_n 2, 1) := by decide +kernel
theorem d_R_align_67 : decode b_R_align 67 = .ok (.i2l, 1) := by decide +kernel
theorem d_R_align_68 : decode b_R_align 68 = .ok (.aload_n 0, 1) := by decide +kernel
theorem d_R_align_69 : decode b_R_align 69 = .ok (.getfield 55, 3) := by decide +kernel
theorem d_R_align_72 : decode b_R_align 72 = .ok (.invokestatic 84, 3) := by decide +kernel
theorem d_R_align_75 : decode b_R_align 75 = .ok (.lmul, 1) := by decide +kernel
theorem d_R_align_76 : decode b_R_align 76 = .ok (.putfield 55, 3) := by decide +kernel
theorem d_R_align_79 : decode b_R_align 79 = .ok (.return_, 1) := by decide +kernel
