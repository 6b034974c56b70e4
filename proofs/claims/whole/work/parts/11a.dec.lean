theorem d_P_at_0 : decode b_P_at 0 = .ok (.iload_n 1, 1) := by decide +kernel
theorem d_P_at_1 : decode b_P_at 1 = .ok (.tableswitch 69 0 5 #[39, 44, 49, 54, 59, 64], 39) := by decide +kernel
theorem d_P_at_40 : decode b_P_at 40 = .ok (.aload_n 0, 1) := by decide +kernel
theorem d_P_at_41 : decode b_P_at 41 = .ok (.getfield 9, 3) := by decide +kernel
theorem d_P_at_44 : decode b_P_at 44 = .ok (.lreturn, 1) := by decide +kernel
theorem d_P_at_45 : decode b_P_at 45 = .ok (.aload_n 0, 1) := by decide +kernel
theorem d_P_at_46 : decode b_P_at 46 = .ok (.getfield 15, 3) := by decide +kernel
theorem d_P_at_49 : decode b_P_at 49 = .ok (.lreturn, 1) := by decide +kernel
theorem d_P_at_50 : decode b_P_at 50 = .ok (.aload_n 0, 1) := by decide +kernel
theorem d_P_at_51 : decode b_P_at 51 = .ok (.getfield 18, 3) := by decide +kernel
theorem d_P_at_54 : decode b_P_at 54 = .ok (.lreturn, 1) := by decide +kernel
theorem d_P_at_55 : decode b_P_at 55 = .ok (.aload_n 0, 1) := by decide +kernel
theorem d_P_at_56 : decode b_P_at 56 = .ok (.getfield 21, 3) := by decide +kernel
theorem d_P_at_59 : decode b_P_at 59 = .ok (.lreturn, 1) := by decide +kernel
theorem d_P_at_60 : decode b_P_at 60 = .ok (.aload_n 0, 1) := by decide +kernel
theorem d_P_at_61 : decode b_P_at 61 = .ok (.getfield 24, 3) := by decide +kernel
theorem d_P_at_64 : decode b_P_at 64 = .ok (.lreturn, 1) := by decide +kernel
theorem d_P_at_65 : decode b_P_at 65 = .ok (.aload_n 0, 1) := by decide +kernel
theorem d_P_at_66 : decode b_P_at 66 = .ok (.getfield 27, 3) := by decide +kernel
theorem d_P_at_69 : decode b_P_at 69 = .ok (.lreturn, 1) := by decide +kernel
theorem d_P_at_70 : decode b_P_at 70 = .ok (.lconst 0, 1) := by decide +kernel
theorem d_P_at_71 : decode b_P_at 71 = .ok (.lreturn, 1) := by decide +kernel
theorem d_P_det_0 : decode b_P_det 0 = .ok (.aload_n 0, 1) := by decide +kernel
theorem d_P_det_1 : decode b_P_det 1 = .ok (.getfield 9, 3) := by decide +kernel
theorem d_P_det_4 : decode b_P_det 4 = .ok (.aload_n 0, 1) := by decide +kernel
theorem d_P_det_5 : decode b_P_det 5 = .ok (.getfield 15, 3) := by decide +kernel
theorem d_P_det_8 : decode b_P_det 8 = .ok (.aload_n 0, 1) := by decide +kernel
theorem d_P_det_9 : decode b_P_det 9 = .ok (.getfield 18, 3) := by decide +kernel
theorem d_P_det_12 : decode b_P_det 12 = .ok (.lmul, 1) := by decide +kernel
theorem d_P_det_13 : decode b_P_det 13 = .ok (.aload_n 0, 1) := by decide +kernel
theorem d_P_det_14 : decode b_P_det 14 = .ok (.getfield 21, 3) := by decide +kernel
theorem d_P_det_17 : decode b_P_det 17 = .ok (.aload_n 0, 1) := by decide +kernel
theorem d_P_det_18 : decode b_P_det 18 = .ok (.getfield 21, 3) := by decide +kernel
theorem d_P_det_21 : decode b_P_det 21 = .ok (.lmul, 1) := by decide +kernel
theorem d_P_det_22 : decode b_P_det 22 = .ok (.lsub, 1) := by decide +kernel
theorem d_P_det_23 : decode b_P_det 23 = .ok (.lmul, 1) := by decide +kernel
theorem d_P_det_24 : decode b_P_det 24 = .ok (.aload_n 0, 1) := by decide +kernel
theorem d_P_det_25 : decode b_P_det 25 = .ok (.getfield 27, 3) := by decide +kernel
theorem d_P_det_28 : decode b_P_det 28 = .ok (.aload_n 0, 1) := by decide +kernel
theorem d_P_det_29 : decode b_P_det 29 = .ok (.getfield 27, 3) := by decide +kernel
theorem d_P_det_32 : decode b_P_det 32 = .ok (.aload_n 0, 1) := by decide +kernel
theorem d_P_det_33 : decode b_P_det 33 = .ok (.getfield 18, 3) := by decide +kernel
theorem d_P_det_36 : decode b_P_det 36 = .ok (.lmul, 1) := by decide +kernel
theorem d_P_det_37 : decode b_P_det 37 = .ok (.aload_n 0, 1) := by decide +kernel
theorem d_P_det_38 : decode b_P_det 38 = .ok (.getfield 21, 3) := by decide +kernel
theorem d_P_det_41 : decode b_P_det 41 = .ok (.aload_n 0, 1) := by decide +kernel
theorem d_P_det_42 : decode b_P_det 42 = .ok (.getfield 24, 3) := by decide +kernel
theorem d_P_det_45 : decode b_P_det 45 = .ok (.lmul, 1) := by decide +kernel
theorem d_P_det_46 : decode b_P_det 46 = .ok (.lsub, 1) := by decide +kernel
theorem d_P_det_47 : decode b_P_det 47 = .ok (.lmul, 1) := by decide +kernel
theorem d_P_det_48 : decode b_P_det 48 = .ok (.lsub, 1) := by decide +kernel
theorem d_P_det_49 : decode b_P_det 49 = .ok (.aload_n 0, 1) := by decide +kernel
theorem d_P_det_50 : decode b_P_det 50 = .ok (.getfield 24, 3) := by decide +kernel
theorem d_P_det_53 : decode b_P_det 53 = .ok (.aload_n 0, 1) := by decide +kernel
theorem d_P_det_54 : decode b_P_det 54 = .ok (.getfield 27, 3) := by decide +kernel
theorem d_P_det_57 : decode b_P_det 57 = .ok (.aload_n 0, 1) := by decide +kernel
theorem d_P_det_58 : decode b_P_det 58 = .ok (.getfield 21, 3) := by decide +kernel
theorem d_P_det_61 : decode b_P_det 61 = .ok (.lmul, 1) := by decide +kernel
theorem d_P_det_62 : decode b_P_det 62 = .ok (.aload_n 0, 1) := by decide +kernel
theorem d_P_det_63 : decode b_P_det 63 = .ok (.getfield 15, 3) := by decide +kernel
theorem d_P_det_66 : decode b_P_det 66 = .ok (.aload_n 0, 1) := by decide +kernel
theorem d_P_det_67 : decode b_P_det 67 = .ok (.getfield 24, 3) := by decide +kernel
theorem d_P_det_70 : decode b_P_det 70 = .ok (.lmul, 1) := by decide +kernel
theorem d_P_det_71 : decode b_P_det 71 = .ok (.lsub, 1) := by decide +kernel
theorem d_P_det_72 : decode b_P_det 72 = .ok (.lmul, 1) := by decide +kernel
theorem d_P_det_73 : decode b_P_det 73 = .ok (.ladd, 1) := by decide +kernel
theorem d_P_det_74 : decode b_P_det 74 = .ok (.lreturn, 1) := by decide +kernel
theorem d_P_span_0 : decode b_P_span 0 = .ok (.aload_n 0, 1) := by decide +kernel
theorem d_P_span_1 : decode b_P_span 1 = .ok (.getfield 9, 3) := by decide +kernel
theorem d_P_span_4 : decode b_P_span 4 = .ok (.aload_n 0, 1) := by decide +kernel
theorem d_P_span_5 : decode b_P_span 5 = .ok (.getfield 15, 3) := by decide +kernel
theorem d_P_span_8 : decode b_P_span 8 = .ok (.lmul, 1) := by decide +kernel
theorem d_P_span_9 : decode b_P_span 9 = .ok (.aload_n 0, 1) := by decide +kernel
theorem d_P_span_10 : decode b_P_span 10 = .ok (.getfield 27, 3) := by decide +kernel
theorem d_P_span_13 : decode b_P_span 13 = .ok (.aload_n 0, 1) := by decide +kernel
theorem d_P_span_14 : decode b_P_span 14 = .ok (.getfield 27, 3) := by decide +kernel
theorem d_P_span_17 : decode b_P_span 17 = .ok (.lmul, 1) := by decide +kernel
theorem d_P_span_18 : decode b_P_span 18 = .ok (.lsub, 1) := by decide +kernel
theorem d_P_span_19 : decode b_P_span 19 = .ok (.lconst 0, 1) := by decide +kernel
theorem d_P_span_20 : decode b_P_span 20 = .ok (.lcmp, 1) := by decide +kernel
theorem d_P_span_21 : decode b_P_span 21 = .ok (.ifCond .le 16, 3) := by decide +kernel
theorem d_P_span_24 : decode b_P_span 24 = .ok (.aload_n 0, 1) := by decide +kernel
theorem d_P_span_25 : decode b_P_span 25 = .ok (.invokevirtual 30, 3) := by decide +kernel
theorem d_P_span_28 : decode b_P_span 28 = .ok (.lconst 0, 1) := by decide +kernel
theorem d_P_span_29 : decode b_P_span 29 = .ok (.lcmp, 1) := by decide +kernel
theorem d_P_span_30 : decode b_P_span 30 = .ok (.ifCond .le 7, 3) := by decide +kernel
theorem d_P_span_33 : decode b_P_span 33 = .ok (.iconst 1, 1) := by decide +kernel
theorem d_P_span_34 : decode b_P_span 34 = .ok (.goto 4, 3) := by decide +kernel
theorem d_P_span_37 : decode b_P_span 37 = .ok (.iconst 0, 1) := by decide +kernel
theorem d_P_span_38 : decode b_P_span 38 = .ok (.ireturn, 1) := by decide +kernel
theorem d_P_prod_0 : decode b_P_prod 0 = .ok (.aload_n 0, 1) := by decide +kernel
theorem d_P_prod_1 : decode b_P_prod 1 = .ok (.getfield 9, 3) := by decide +kernel
theorem d_P_prod_4 : decode b_P_prod 4 = .ok (.lload_n 1, 1) := by decide +kernel
theorem d_P_prod_5 : decode b_P_prod 5 = .ok (.lmul, 1) := by decide +kernel
theorem d_P_prod_6 : decode b_P_prod 6 = .ok (.lload 7, 2) := by decide +kernel
theorem d_P_prod_8 : decode b_P_prod 8 = .ok (.lmul, 1) := by decide +kernel
theorem d_P_prod_9 : decode b_P_prod 9 = .ok (.aload_n 0, 1) := by decide +kernel
theorem d_P_prod_10 : decode b_P_prod 10 = .ok (.getfield 15, 3) := by decide +kernel
theorem d_P_prod_13 : decode b_P_prod 13 = .ok (.lload_n 3, 1) := by decide +kernel
theorem d_P_prod_14 : decode b_P_prod 14 = .ok (.lmul, 1) := by decide +kernel
theorem d_P_prod_15 : decode b_P_prod 15 = .ok (.lload 9, 2) := by decide +kernel
theorem d_P_prod_17 : decode b_P_prod 17 = .ok (.lmul, 1) := by decide +kernel
theorem d_P_prod_18 : decode b_P_prod 18 = .ok (.ladd, 1) := by decide +kernel
theorem d_P_prod_19 : decode b_P_prod 19 = .ok (.aload_n 0, 1) := by decide +kernel
theorem d_P_prod_20 : decode b_P_prod 20 = .ok (.getfield 18, 3) := by decide +kernel
theorem d_P_prod_23 : decode b_P_prod 23 = .ok (.lload 5, 2) := by decide +kernel
theorem d_P_prod_25 : decode b_P_prod 25 = .ok (.lmul, 1) := by decide +kernel
theorem d_P_prod_26 : decode b_P_prod 26 = .ok (.lload 11, 2) := by decide +kernel
theorem d_P_prod_28 : decode b_P_prod 28 = .ok (.lmul, 1) := by decide +kernel
theorem d_P_prod_29 : decode b_P_prod 29 = .ok (.ladd, 1) := by decide +kernel
theorem d_P_prod_30 : decode b_P_prod 30 = .ok (.aload_n 0, 1) := by decide +kernel
theorem d_P_prod_31 : decode b_P_prod 31 = .ok (.getfield 21, 3) := by decide +kernel
theorem d_P_prod_34 : decode b_P_prod 34 = .ok (.lload_n 3, 1) := by decide +kernel
theorem d_P_prod_35 : decode b_P_prod 35 = .ok (.lload 11, 2) := by decide +kernel
theorem d_P_prod_37 : decode b_P_prod 37 = .ok (.lmul, 1) := by decide +kernel
theorem d_P_prod_38 : decode b_P_prod 38 = .ok (.lload 5, 2) := by decide +kernel
theorem d_P_prod_40 : decode b_P_prod 40 = .ok (.lload 9, 2) := by decide +kernel
theorem d_P_prod_42 : decode b_P_prod 42 = .ok (.lmul, 1) := by decide +kernel
theorem d_P_prod_43 : decode b_P_prod 43 = .ok (.ladd, 1) := by decide +kernel
theorem d_P_prod_44 : decode b_P_prod 44 = .ok (.lmul, 1) := by decide +kernel
theorem d_P_prod_45 : decode b_P_prod 45 = .ok (.ladd, 1) := by decide +kernel
theorem d_P_prod_46 : decode b_P_prod 46 = .ok (.aload_n 0, 1) := by decide +kernel
theorem d_P_prod_47 : decode b_P_prod 47 = .ok (.getfield 24, 3) := by decide +kernel
theorem d_P_prod_50 : decode b_P_prod 50 = .ok (.lload_n 1, 1) := by decide +kernel
theorem d_P_prod_51 : decode b_P_prod 51 = .ok (.lload 11, 2) := by decide +kernel
theorem d_P_prod_53 : decode b_P_prod 53 = .ok (.lmul, 1) := by decide +kernel
theorem d_P_prod_54 : decode b_P_prod 54 = .ok (.lload 5, 2) := by decide +kernel
theorem d_P_prod_56 : decode b_P_prod 56 = .ok (.lload 7, 2) := by decide +kernel
theorem d_P_prod_58 : decode b_P_prod 58 = .ok (.lmul, 1) := by decide +kernel
theorem d_P_prod_59 : decode b_P_prod 59 = .ok (.ladd, 1) := by decide +kernel
theorem d_P_prod_60 : decode b_P_prod 60 = .ok (.lmul, 1) := by decide +kernel
theorem d_P_prod_61 : decode b_P_prod 61 = .ok (.ladd, 1) := by decide +kernel
theorem d_P_prod_62 : decode b_P_prod 62 = .ok (.aload_n 0, 1) := by decide +kernel
theorem d_P_prod_63 : decode b_P_prod 63 = .ok (.getfield 27, 3) := by decide +kernel
theorem d_P_prod_66 : decode b_P_prod 66 = .ok (.lload_n 1, 1) := by decide +kernel
theorem d_P_prod_67 : decode b_P_prod 67 = .ok (.lload 9, 2) := by decide +kernel
theorem d_P_prod_69 : decode b_P_prod 69 = .ok (.lmul, 1) := by decide +kernel
theorem d_P_prod_70 : decode b_P_prod 70 = .ok (.lload_n 3, 1) := by decide +kernel
theorem d_P_prod_71 : decode b_P_prod 71 = .ok (.lload 7, 2) := by decide +kernel
theorem d_P_prod_73 : decode b_P_prod 73 = .ok (.lmul, 1) := by decide +kernel
theorem d_P_prod_74 : decode b_P_prod 74 = .ok (.ladd, 1) := by decide +kernel
theorem d_P_prod_75 : decode b_P_prod 75 = .ok (.lmul, 1) := by decide +kernel
theorem d_P_prod_76 : decode b_P_prod 76 = .ok (.ladd, 1) := by decide +kernel
theorem d_P_prod_77 : decode b_P_prod 77 = .ok (.lreturn, 1) := by decide +kernel
theorem d_P_colp_0 : decode b_P_colp 0 = .ok (.aload_n 0, 1) := by decide +kernel
theorem d_P_colp_1 : decode b_P_colp 1 = .ok (.iload_n 1, 1) := by decide +kernel
theorem d_P_colp_2 : decode b_P_colp 2 = .ok (.bipush 9, 2) := by decide +kernel
theorem d_P_colp_4 : decode b_P_colp 4 = .ok (.idiv, 1) := by decide +kernel
theorem d_P_colp_5 : decode b_P_colp 5 = .ok (.iconst 3, 1) := by decide +kernel
theorem d_P_colp_6 : decode b_P_colp 6 = .ok (.irem, 1) := by decide +kernel
theorem d_P_colp_7 : decode b_P_colp 7 = .ok (.iconst 1, 1) := by decide +kernel
theorem d_P_colp_8 : decode b_P_colp 8 = .ok (.isub, 1) := by decide +kernel
theorem d_P_colp_9 : decode b_P_colp 9 = .ok (.i2l, 1) := by decide +kernel
theorem d_P_colp_10 : decode b_P_colp 10 = .ok (.iload_n 1, 1) := by decide +kernel
theorem d_P_colp_11 : decode b_P_colp 11 = .ok (.iconst 3, 1) := by decide +kernel
theorem d_P_colp_12 : decode b_P_colp 12 = .ok (.idiv, 1) := by decide +kernel
theorem d_P_colp_13 : decode b_P_colp 13 = .ok (.iconst 3, 1) := by decide +kernel
theorem d_P_colp_14 : decode b_P_colp 14 = .ok (.irem, 1) := by decide +kernel
theorem d_P_colp_15 : decode b_P_colp 15 = .ok (.iconst 1, 1) := by decide +kernel
theorem d_P_colp_16 : decode b_P_colp 16 = .ok (.isub, 1) := by decide +kernel
theorem d_P_colp_17 : decode b_P_colp 17 = .ok (.i2l, 1) := by decide +kernel
theorem d_P_colp_18 : decode b_P_colp 18 = .ok (.iload_n 1, 1) := by decide +kernel
theorem d_P_colp_19 : decode b_P_colp 19 = .ok (.iconst 3, 1) := by decide +kernel
theorem d_P_colp_20 : decode b_P_colp 20 = .ok (.irem, 1) := by decide +kernel
theorem d_P_colp_21 : decode b_P_colp 21 = .ok (.iconst 1, 1) := by decide +kernel
theorem d_P_colp_22 : decode b_P_colp 22 = .ok (.isub, 1) := by decide +kernel
theorem d_P_colp_23 : decode b_P_colp 23 = .ok (.i2l, 1) := by decide +kernel
theorem d_P_colp_24 : decode b_P_colp 24 = .ok (.iload_n 2, 1) := by decide +kernel
theorem d_P_colp_25 : decode b_P_colp 25 = .ok (.bipush 9, 2) := by decide +kernel
theorem d_P_colp_27 : decode b_P_colp 27 = .ok (.idiv, 1) := by decide +kernel
theorem d_P_colp_28 : decode b_P_colp 28 = .ok (.iconst 3, 1) := by decide +kernel
theorem d_P_colp_29 : decode b_P_colp 29 = .ok (.irem, 1) := by decide +kernel
theorem d_P_colp_30 : decode b_P_colp 30 = .ok (.iconst 1, 1) := by decide +kernel
theorem d_P_colp_31 : decode b_P_colp 31 = .ok (.isub, 1) := by decide +kernel
theorem d_P_colp_32 : decode b_P_colp 32 = .ok (.i2l, 1) := by decide +kernel
theorem d_P_colp_33 : decode b_P_colp 33 = .ok (.iload_n 2, 1) := by decide +kernel
theorem d_P_colp_34 : decode b_P_colp 34 = .ok (.iconst 3, 1) := by decide +kernel
theorem d_P_colp_35 : decode b_P_colp 35 = .ok (.idiv, 1) := by decide +kernel
theorem d_P_colp_36 : decode b_P_colp 36 = .ok (.iconst 3, 1) := by decide +kernel
theorem d_P_colp_37 : decode b_P_colp 37 = .ok (.irem, 1) := by decide +kernel
theorem d_P_colp_38 : decode b_P_colp 38 = .ok (.iconst 1, 1) := by decide +kernel
theorem d_P_colp_39 : decode b_P_colp 39 = .ok (.isub, 1) := by decide +kernel
theorem d_P_colp_40 : decode b_P_colp 40 = .ok (.i2l, 1) := by decide +kernel
theorem d_P_colp_41 : decode b_P_colp 41 = .ok (.iload_n 2, 1) := by decide +kernel
theorem d_P_colp_42 : decode b_P_colp 42 = .ok (.iconst 3, 1) := by decide +kernel
theorem d_P_colp_43 : decode b_P_colp 43 = .ok (.irem, 1) := by decide +kernel
theorem d_P_colp_44 : decode b_P_colp 44 = .ok (.iconst 1, 1) := by decide +kernel
theorem d_P_colp_45 : decode b_P_colp 45 = .ok (.isub, 1) := by decide +kernel
theorem d_P_colp_46 : decode b_P_colp 46 = .ok (.i2l, 1) := by decide +kernel
theorem d_P_colp_47 : decode b_P_colp 47 = .ok (.invokevirtual 34, 3) := by decide +kernel
theorem d_P_colp_50 : decode b_P_colp 50 = .ok (.lreturn, 1) := by decide +kernel
theorem d_P_fit2_0 : decode b_P_fit2 0 = .ok (.aload_n 0, 1) := by decide +kernel
theorem d_P_fit2_1 : decode b_P_fit2 1 = .ok (.iload_n 2, 1) := by decide +kernel
theorem d_P_fit2_2 : decode b_P_fit2 2 = .ok (.iload_n 2, 1) := by decide +kernel
theorem d_P_fit2_3 : decode b_P_fit2 3 = .ok (.invokevirtual 38, 3) := by decide +kernel
theorem d_P_fit2_6 : decode b_P_fit2 6 = .ok (.aload_n 0, 1) := by decide +kernel
theorem d_P_fit2_7 : decode b_P_fit2 7 = .ok (.getfield 15, 3) := by decide +kernel
theorem d_P_fit2_10 : decode b_P_fit2 10 = .ok (.lcmp, 1) := by decide +kernel
theorem d_P_fit2_11 : decode b_P_fit2 11 = .ok (.ifCond .ne 21, 3) := by decide +kernel
theorem d_P_fit2_14 : decode b_P_fit2 14 = .ok (.aload_n 0, 1) := by decide +kernel
theorem d_P_fit2_15 : decode b_P_fit2 15 = .ok (.iload_n 1, 1) := by decide +kernel
theorem d_P_fit2_16 : decode b_P_fit2 16 = .ok (.iload_n 2, 1) := by decide +kernel
theorem d_P_fit2_17 : decode b_P_fit2 17 = .ok (.invokevirtual 38, 3) := by decide +kernel
theorem d_P_fit2_20 : decode b_P_fit2 20 = .ok (.aload_n 0, 1) := by decide +kernel
theorem d_P_fit2_21 : decode b_P_fit2 21 = .ok (.getfield 27, 3) := by decide +kernel
theorem d_P_fit2_24 : decode b_P_fit2 24 = .ok (.lcmp, 1) := by decide +kernel
theorem d_P_fit2_25 : decode b_P_fit2 25 = .ok (.ifCond .ne 7, 3) := by decide +kernel
theorem d_P_fit2_28 : decode b_P_fit2 28 = .ok (.iconst 1, 1) := by decide +kernel
theorem d_P_fit2_29 : decode b_P_fit2 29 = .ok (.goto 4, 3) := by decide +kernel
theorem d_P_fit2_32 : decode b_P_fit2 32 = .ok (.iconst 0, 1) := by decide +kernel
theorem d_P_fit2_33 : decode b_P_fit2 33 = .ok (.ireturn, 1) := by decide +kernel
theorem d_P_fit3_0 : decode b_P_fit3 0 = .ok (.aload_n 0, 1) := by decide +kernel
theorem d_P_fit3_1 : decode b_P_fit3 1 = .ok (.iload_n 3, 1) := by decide +kernel
theorem d_P_fit3_2 : decode b_P_fit3 2 = .ok (.iload_n 3, 1) := by decide +kernel
theorem d_P_fit3_3 : decode b_P_fit3 3 = .ok (.invokevirtual 38, 3) := by decide +kernel
theorem d_P_fit3_6 : decode b_P_fit3 6 = .ok (.aload_n 0, 1) := by decide +kernel
theorem d_P_fit3_7 : decode b_P_fit3 7 = .ok (.getfield 18, 3) := by decide +kernel
theorem d_P_fit3_10 : decode b_P_fit3 10 = .ok (.lcmp, 1) := by decide +kernel
theorem d_P_fit3_11 : decode b_P_fit3 11 = .ok (.ifCond .ne 35, 3) := by decide +kernel
theorem d_P_fit3_14 : decode b_P_fit3 14 = .ok (.aload_n 0, 1) := by decide +kernel
theorem d_P_fit3_15 : decode b_P_fit3 15 = .ok (.iload_n 1, 1) := by decide +kernel
theorem d_P_fit3_16 : decode b_P_fit3 16 = .ok (.iload_n 3, 1) := by decide +kernel
theorem d_P_fit3_17 : decode b_P_fit3 17 = .ok (.invokevirtual 38, 3) := by decide +kernel
theorem d_P_fit3_20 : decode b_P_fit3 20 = .ok (.aload_n 0, 1) := by decide +kernel
theorem d_P_fit3_21 : decode b_P_fit3 21 = .ok (.getfield 24, 3) := by decide +kernel
theorem d_P_fit3_24 : decode b_P_fit3 24 = .ok (.lcmp, 1) := by decide +kernel
theorem d_P_fit3_25 : decode b_P_fit3 25 = .ok (.ifCond .ne 21, 3) := by decide +kernel
theorem d_P_fit3_28 : decode b_P_fit3 28 = .ok (.aload_n 0, 1) := by decide +kernel
theorem d_P_fit3_29 : decode b_P_fit3 29 = .ok (.iload_n 2, 1) := by decide +kernel
theorem d_P_fit3_30 : decode b_P_fit3 30 = .ok (.iload_n 3, 1) := by decide +kernel
theorem d_P_fit3_31 : decode b_P_fit3 31 = .ok (.invokevirtual 38, 3) := by decide +kernel
theorem d_P_fit3_34 : decode b_P_fit3 34 = .ok (.aload_n 0, 1) := by decide +kernel
theorem d_P_fit3_35 : decode b_P_fit3 35 = .ok (.getfield 21, 3) := by decide +kernel
theorem d_P_fit3_38 : decode b_P_fit3 38 = .ok (.lcmp, 1) := by decide +kernel
theorem d_P_fit3_39 : decode b_P_fit3 39 = .ok (.ifCond .ne 7, 3) := by decide +kernel
theorem d_P_fit3_42 : decode b_P_fit3 42 = .ok (.iconst 1, 1) := by decide +kernel
theorem d_P_fit3_43 : decode b_P_fit3 43 = .ok (.goto 4, 3) := by decide +kernel
theorem d_P_fit3_46 : decode b_P_fit3 46 = .ok (.iconst 0, 1) := by decide +kernel
theorem d_P_fit3_47 : decode b_P_fit3 47 = .ok (.ireturn, 1) := by decide +kernel
theorem d_P_kept_0 : decode b_P_kept 0 = .ok (.aload_n 0, 1) := by decide +kernel
theorem d_P_kept_1 : decode b_P_kept 1 = .ok (.iload_n 1, 1) := by decide +kernel
theorem d_P_kept_2 : decode b_P_kept 2 = .ok (.iload_n 1, 1) := by decide +kernel
theorem d_P_kept_3 : decode b_P_kept 3 = .ok (.invokevirtual 38, 3) := by decide +kernel
theorem d_P_kept_6 : decode b_P_kept 6 = .ok (.aload_n 0, 1) := by decide +kernel
theorem d_P_kept_7 : decode b_P_kept 7 = .ok (.getfield 9, 3) := by decide +kernel
theorem d_P_kept_10 : decode b_P_kept 10 = .ok (.lcmp, 1) := by decide +kernel
theorem d_P_kept_11 : decode b_P_kept 11 = .ok (.ifCond .ne 26, 3) := by decide +kernel
theorem d_P_kept_14 : decode b_P_kept 14 = .ok (.aload_n 0, 1) := by decide +kernel
theorem d_P_kept_15 : decode b_P_kept 15 = .ok (.iload_n 1, 1) := by decide +kernel
theorem d_P_kept_16 : decode b_P_kept 16 = .ok (.iload_n 2, 1) := by decide +kernel
theorem d_P_kept_17 : decode b_P_kept 17 = .ok (.invokevirtual 42, 3) := by decide +kernel
theorem d_P_kept_20 : decode b_P_kept 20 = .ok (.ifCond .eq 17, 3) := by decide +kernel
theorem d_P_kept_23 : decode b_P_kept 23 = .ok (.aload_n 0, 1) := by decide +kernel
theorem d_P_kept_24 : decode b_P_kept 24 = .ok (.iload_n 1, 1) := by decide +kernel
theorem d_P_kept_25 : decode b_P_kept 25 = .ok (.iload_n 2, 1) := by decide +kernel
theorem d_P_kept_26 : decode b_P_kept 26 = .ok (.iload_n 3, 1) := by decide +kernel
theorem d_P_kept_27 : decode b_P_kept 27 = .ok (.invokevirtual 46, 3) := by decide +kernel
theorem d_P_kept_30 : decode b_P_kept 30 = .ok (.ifCond .eq 7, 3) := by decide +kernel
theorem d_P_kept_33 : decode b_P_kept 33 = .ok (.iconst 1, 1) := by decide +kernel
theorem d_P_kept_34 : decode b_P_kept 34 = .ok (.goto 4, 3) := by decide +kernel
theorem d_P_kept_37 : decode b_P_kept 37 = .ok (.iconst 0, 1) := by decide +kernel
theorem d_P_kept_38 : decode b_P_kept 38 = .ok (.ireturn, 1) := by decide +kernel
theorem d_P_thirds_0 : decode b_P_thirds 0 = .ok (.iconst 0, 1) := by decide +kernel
theorem d_P_thirds_1 : decode b_P_thirds 1 = .ok (.istore_n 3, 1) := by decide +kernel
theorem d_P_thirds_2 : decode b_P_thirds 2 = .ok (.iconst 0, 1) := by decide +kernel
theorem d_P_thirds_3 : decode b_P_thirds 3 = .ok (.istore 4, 2) := by decide +kernel
theorem d_P_thirds_5 : decode b_P_thirds 5 = .ok (.iload 4, 2) := by decide +kernel
theorem d_P_thirds_7 : decode b_P_thirds 7 = .ok (.bipush 27, 2) := by decide +kernel
theorem d_P_thirds_9 : decode b_P_thirds 9 = .ok (.if_icmp .ge 23, 3) := by decide +kernel
theorem d_P_thirds_12 : decode b_P_thirds 12 = .ok (.aload_n 0, 1) := by decide +kernel
theorem d_P_thirds_13 : decode b_P_thirds 13 = .ok (.iload_n 1, 1) := by decide +kernel
theorem d_P_thirds_14 : decode b_P_thirds 14 = .ok (.iload_n 2, 1) := by decide +kernel
theorem d_P_thirds_15 : decode b_P_thirds 15 = .ok (.iload 4, 2) := by decide +kernel
theorem d_P_thirds_17 : decode b_P_thirds 17 = .ok (.invokevirtual 46, 3) := by decide +kernel
theorem d_P_thirds_20 : decode b_P_thirds 20 = .ok (.ifCond .eq 6, 3) := by decide +kernel
theorem d_P_thirds_23 : decode b_P_thirds 23 = .ok (.iinc 3 1, 3) := by decide +kernel
theorem d_P_thirds_26 : decode b_P_thirds 26 = .ok (.iinc 4 1, 3) := by decide +kernel
theorem d_P_thirds_29 : decode b_P_thirds 29 = .ok (.goto (-24), 3) := by decide +kernel
theorem d_P_thirds_32 : decode b_P_thirds 32 = .ok (.iload_n 3, 1) := by decide +kernel
theorem d_P_thirds_33 : decode b_P_thirds 33 = .ok (.ireturn, 1) := by decide +kernel
theorem d_P_keepers_0 : decode b_P_keepers 0 = .ok (.iconst 0, 1) := by decide +kernel
theorem d_P_keepers_1 : decode b_P_keepers 1 = .ok (.istore_n 1, 1) := by decide +kernel
theorem d_P_keepers_2 : decode b_P_keepers 2 = .ok (.iconst 0, 1) := by decide +kernel
theorem d_P_keepers_3 : decode b_P_keepers 3 = .ok (.istore_n 2, 1) := by decide +kernel
theorem d_P_keepers_4 : decode b_P_keepers 4 = .ok (.iload_n 2, 1) := by decide +kernel
theorem d_P_keepers_5 : decode b_P_keepers 5 = .ok (.bipush 27, 2) := by decide +kernel
theorem d_P_keepers_7 : decode b_P_keepers 7 = .ok (.if_icmp .ge 58, 3) := by decide +kernel
theorem d_P_keepers_10 : decode b_P_keepers 10 = .ok (.aload_n 0, 1) := by decide +kernel
theorem d_P_keepers_11 : decode b_P_keepers 11 = .ok (.iload_n 2, 1) := by decide +kernel
theorem d_P_keepers_12 : decode b_P_keepers 12 = .ok (.iload_n 2, 1) := by decide +kernel
theorem d_P_keepers_13 : decode b_P_keepers 13 = .ok (.invokevirtual 38, 3) := by decide +kernel
theorem d_P_keepers_16 : decode b_P_keepers 16 = .ok (.aload_n 0, 1) := by decide +kernel
theorem d_P_keepers_17 : decode b_P_keepers 17 = .ok (.getfield 9, 3) := by decide +kernel
theorem d_P_keepers_20 : decode b_P_keepers 20 = .ok (.lcmp, 1) := by decide +kernel
theorem d_P_keepers_21 : decode b_P_keepers 21 = .ok (.ifCond .eq 6, 3) := by decide +kernel
theorem d_P_keepers_24 : decode b_P_keepers 24 = .ok (.goto 35, 3) := by decide +kernel
theorem d_P_keepers_27 : decode b_P_keepers 27 = .ok (.iconst 0, 1) := by decide +kernel
theorem d_P_keepers_28 : decode b_P_keepers 28 = .ok (.istore_n 3, 1) := by decide +kernel
theorem d_P_keepers_29 : decode b_P_keepers 29 = .ok (.iload_n 3, 1) := by decide +kernel
theorem d_P_keepers_30 : decode b_P_keepers 30 = .ok (.bipush 27, 2) := by decide +kernel
theorem d_P_keepers_32 : decode b_P_keepers 32 = .ok (.if_icmp .ge 27, 3) := by decide +kernel
theorem d_P_keepers_35 : decode b_P_keepers 35 = .ok (.aload_n 0, 1) := by decide +kernel
theorem d_P_keepers_36 : decode b_P_keepers 36 = .ok (.iload_n 2, 1) := by decide +kernel
theorem d_P_keepers_37 : decode b_P_keepers 37 = .ok (.iload_n 3, 1) := by decide +kernel
theorem d_P_keepers_38 : decode b_P_keepers 38 = .ok (.invokevirtual 42, 3) := by decide +kernel
theorem d_P_keepers_41 : decode b_P_keepers 41 = .ok (.ifCond .eq 12, 3) := by decide +kernel
theorem d_P_keepers_44 : decode b_P_keepers 44 = .ok (.iload_n 1, 1) := by decide +kernel
theorem d_P_keepers_45 : decode b_P_keepers 45 = .ok (.aload_n 0, 1) := by decide +kernel
theorem d_P_keepers_46 : decode b_P_keepers 46 = .ok (.iload_n 2, 1) := by decide +kernel
theorem d_P_keepers_47 : decode b_P_keepers 47 = .ok (.iload_n 3, 1) := by decide +kernel
theorem d_P_keepers_48 : decode b_P_keepers 48 = .ok (.invokevirtual 50, 3) := by decide +kernel
theorem d_P_keepers_51 : decode b_P_keepers 51 = .ok (.iadd, 1) := by decide +kernel
theorem d_P_keepers_52 : decode b_P_keepers 52 = .ok (.istore_n 1, 1) := by decide +kernel
theorem d_P_keepers_53 : decode b_P_keepers 53 = .ok (.iinc 3 1, 3) := by decide +kernel
theorem d_P_keepers_56 : decode b_P_keepers 56 = .ok (.goto (-27), 3) := by decide +kernel
theorem d_P_keepers_59 : decode b_P_keepers 59 = .ok (.iinc 2 1, 3) := by decide +kernel
theorem d_P_keepers_62 : decode b_P_keepers 62 = .ok (.goto (-58), 3) := by decide +kernel
theorem d_P_keepers_65 : decode b_P_keepers 65 = .ok (.iload_n 1, 1) := by decide +kernel
theorem d_P_keepers_66 : decode b_P_keepers 66 = .ok (.ireturn, 1) := by decide +kernel
theorem d_P_order_0 : decode b_P_order 0 = .ok (.iconst 0, 1) := by decide +kernel
theorem d_P_order_1 : decode b_P_order 1 = .ok (.istore_n 2, 1) := by decide +kernel
theorem d_P_order_2 : decode b_P_order 2 = .ok (.iload_n 2, 1) := by decide +kernel
theorem d_P_order_3 : decode b_P_order 3 = .ok (.bipush 6, 2) := by decide +kernel
theorem d_P_order_5 : decode b_P_order 5 = .ok (.if_icmp .ge 29, 3) := by decide +kernel
theorem d_P_order_8 : decode b_P_order 8 = .ok (.aload_n 0, 1) := by decide +kernel
theorem d_P_order_9 : decode b_P_order 9 = .ok (.iload_n 2, 1) := by decide +kernel
theorem d_P_order_10 : decode b_P_order 10 = .ok (.invokevirtual 54, 3) := by decide +kernel
theorem d_P_order_13 : decode b_P_order 13 = .ok (.aload_n 1, 1) := by decide +kernel
theorem d_P_order_14 : decode b_P_order 14 = .ok (.iload_n 2, 1) := by decide +kernel
theorem d_P_order_15 : decode b_P_order 15 = .ok (.invokevirtual 54, 3) := by decide +kernel
theorem d_P_order_18 : decode b_P_order 18 = .ok (.invokestatic 58, 3) := by decide +kernel
theorem d_P_order_21 : decode b_P_order 21 = .ok (.istore_n 3, 1) := by decide +kernel
theorem d_P_order_22 : decode b_P_order 22 = .ok (.iload_n 3, 1) := by decide +kernel
theorem d_P_order_23 : decode b_P_order 23 = .ok (.ifCond .eq 5, 3) := by decide +kernel
theorem d_P_order_26 : decode b_P_order 26 = .ok (.iload_n 3, 1) := by decide +kernel
theorem d_P_order_27 : decode b_P_order 27 = .ok (.ireturn, 1) := by decide +kernel
theorem d_P_order_28 : decode b_P_order 28 = .ok (.iinc 2 1, 3) := by decide +kernel
theorem d_P_order_31 : decode b_P_order 31 = .ok (.goto (-29), 3) := by decide +kernel
theorem d_P_order_34 : decode b_P_order 34 = .ok (.iconst 0, 1) := by decide +kernel
theorem d_P_order_35 : decode b_P_order 35 = .ok (.ireturn, 1) := by decide +kernel
theorem d_P_init_0 : decode b_P_init 0 = .ok (.aload_n 0, 1) := by decide +kernel
theorem d_P_init_1 : decode b_P_init 1 = .ok (.invokespecial 3, 3) := by decide +kernel
theorem d_P_init_4 : decode b_P_init 4 = .ok (.aload_n 0, 1) := by decide +kernel
theorem d_P_init_5 : decode b_P_init 5 = .ok (.lload_n 1, 1) := by decide +kernel
theorem d_P_init_6 : decode b_P_init 6 = .ok (.putfield 9, 3) := by decide +kernel
theorem d_P_init_9 : decode b_P_init 9 = .ok (.aload_n 0, 1) := by decide +kernel
theorem d_P_init_10 : decode b_P_init 10 = .ok (.lload_n 3, 1) := by decide +kernel
theorem d_P_init_11 : decode b_P_init 11 = .ok (.putfield 15, 3) := by decide +kernel
theorem d_P_init_14 : decode b_P_init 14 = .ok (.aload_n 0, 1) := by decide +kernel
theorem d_P_init_15 : decode b_P_init 15 = .ok (.lload 5, 2) := by decide +kernel
theorem d_P_init_17 : decode b_P_init 17 = .ok (.putfield 18, 3) := by decide +kernel
theorem d_P_init_20 : decode b_P_init 20 = .ok (.aload_n 0, 1) := by decide +kernel
theorem d_P_init_21 : decode b_P_init 21 = .ok (.lload 7, 2) := by decide +kernel
theorem d_P_init_23 : decode b_P_init 23 = .ok (.putfield 21, 3) := by decide +kernel
theorem d_P_init_26 : decode b_P_init 26 = .ok (.aload_n 0, 1) := by decide +kernel
theorem d_P_init_27 : decode b_P_init 27 = .ok (.lload 9, 2) := by decide +kernel
theorem d_P_init_29 : decode b_P_init 29 = .ok (.putfield 24, 3) := by decide +kernel
theorem d_P_init_32 : decode b_P_init 32 = .ok (.aload_n 0, 1) := by decide +kernel
theorem d_P_init_33 : decode b_P_init 33 = .ok (.lload 11, 2) := by decide +kernel
theorem d_P_init_35 : decode b_P_init 35 = .ok (.putfield 27, 3) := by decide +kernel
theorem d_P_init_38 : decode b_P_init 38 = .ok (.return_, 1) := by decide +kernel
