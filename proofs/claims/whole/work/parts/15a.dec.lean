theorem d_T_size_0 : decode b_T_size 0 = .ok (.aload_n 0, 1) := by decide +kernel
theorem d_T_size_1 : decode b_T_size 1 = .ok (.getfield 19, 3) := by decide +kernel
theorem d_T_size_4 : decode b_T_size 4 = .ok (.ireturn, 1) := by decide +kernel
theorem d_T_at_0 : decode b_T_at 0 = .ok (.iload_n 1, 1) := by decide +kernel
theorem d_T_at_1 : decode b_T_at 1 = .ok (.ifCond .lt 28, 3) := by decide +kernel
theorem d_T_at_4 : decode b_T_at 4 = .ok (.iload_n 1, 1) := by decide +kernel
theorem d_T_at_5 : decode b_T_at 5 = .ok (.aload_n 0, 1) := by decide +kernel
theorem d_T_at_6 : decode b_T_at 6 = .ok (.getfield 19, 3) := by decide +kernel
theorem d_T_at_9 : decode b_T_at 9 = .ok (.if_icmp .ge 20, 3) := by decide +kernel
theorem d_T_at_12 : decode b_T_at 12 = .ok (.iload_n 1, 1) := by decide +kernel
theorem d_T_at_13 : decode b_T_at 13 = .ok (.sipush 455, 3) := by decide +kernel
theorem d_T_at_16 : decode b_T_at 16 = .ok (.if_icmp .ge 13, 3) := by decide +kernel
theorem d_T_at_19 : decode b_T_at 19 = .ok (.iload_n 2, 1) := by decide +kernel
theorem d_T_at_20 : decode b_T_at 20 = .ok (.ifCond .lt 9, 3) := by decide +kernel
theorem d_T_at_23 : decode b_T_at 23 = .ok (.iload_n 2, 1) := by decide +kernel
theorem d_T_at_24 : decode b_T_at 24 = .ok (.bipush 7, 2) := by decide +kernel
theorem d_T_at_26 : decode b_T_at 26 = .ok (.if_icmp .lt 5, 3) := by decide +kernel
theorem d_T_at_29 : decode b_T_at 29 = .ok (.lconst 0, 1) := by decide +kernel
theorem d_T_at_30 : decode b_T_at 30 = .ok (.lreturn, 1) := by decide +kernel
theorem d_T_at_31 : decode b_T_at 31 = .ok (.aload_n 0, 1) := by decide +kernel
theorem d_T_at_32 : decode b_T_at 32 = .ok (.getfield 15, 3) := by decide +kernel
theorem d_T_at_35 : decode b_T_at 35 = .ok (.iload_n 1, 1) := by decide +kernel
theorem d_T_at_36 : decode b_T_at 36 = .ok (.bipush 7, 2) := by decide +kernel
theorem d_T_at_38 : decode b_T_at 38 = .ok (.imul, 1) := by decide +kernel
theorem d_T_at_39 : decode b_T_at 39 = .ok (.iload_n 2, 1) := by decide +kernel
theorem d_T_at_40 : decode b_T_at 40 = .ok (.iadd, 1) := by decide +kernel
theorem d_T_at_41 : decode b_T_at 41 = .ok (.laload, 1) := by decide +kernel
theorem d_T_at_42 : decode b_T_at 42 = .ok (.lreturn, 1) := by decide +kernel
theorem d_T_ordR_0 : decode b_T_ordR 0 = .ok (.iconst 0, 1) := by decide +kernel
theorem d_T_ordR_1 : decode b_T_ordR 1 = .ok (.istore_n 2, 1) := by decide +kernel
theorem d_T_ordR_2 : decode b_T_ordR 2 = .ok (.iload_n 2, 1) := by decide +kernel
theorem d_T_ordR_3 : decode b_T_ordR 3 = .ok (.bipush 6, 2) := by decide +kernel
theorem d_T_ordR_5 : decode b_T_ordR 5 = .ok (.if_icmp .ge 33, 3) := by decide +kernel
theorem d_T_ordR_8 : decode b_T_ordR 8 = .ok (.aload_n 0, 1) := by decide +kernel
theorem d_T_ordR_9 : decode b_T_ordR 9 = .ok (.iload_n 1, 1) := by decide +kernel
theorem d_T_ordR_10 : decode b_T_ordR 10 = .ok (.iload_n 2, 1) := by decide +kernel
theorem d_T_ordR_11 : decode b_T_ordR 11 = .ok (.invokevirtual 70, 3) := by decide +kernel
theorem d_T_ordR_14 : decode b_T_ordR 14 = .ok (.aload_n 0, 1) := by decide +kernel
theorem d_T_ordR_15 : decode b_T_ordR 15 = .ok (.getfield 9, 3) := by decide +kernel
theorem d_T_ordR_18 : decode b_T_ordR 18 = .ok (.iload_n 2, 1) := by decide +kernel
theorem d_T_ordR_19 : decode b_T_ordR 19 = .ok (.invokevirtual 74, 3) := by decide +kernel
theorem d_T_ordR_22 : decode b_T_ordR 22 = .ok (.invokestatic 77, 3) := by decide +kernel
theorem d_T_ordR_25 : decode b_T_ordR 25 = .ok (.istore_n 3, 1) := by decide +kernel
theorem d_T_ordR_26 : decode b_T_ordR 26 = .ok (.iload_n 3, 1) := by decide +kernel
theorem d_T_ordR_27 : decode b_T_ordR 27 = .ok (.ifCond .eq 5, 3) := by decide +kernel
theorem d_T_ordR_30 : decode b_T_ordR 30 = .ok (.iload_n 3, 1) := by decide +kernel
theorem d_T_ordR_31 : decode b_T_ordR 31 = .ok (.ireturn, 1) := by decide +kernel
theorem d_T_ordR_32 : decode b_T_ordR 32 = .ok (.iinc 2 1, 3) := by decide +kernel
theorem d_T_ordR_35 : decode b_T_ordR 35 = .ok (.goto (-33), 3) := by decide +kernel
theorem d_T_ordR_38 : decode b_T_ordR 38 = .ok (.iconst 0, 1) := by decide +kernel
theorem d_T_ordR_39 : decode b_T_ordR 39 = .ok (.ireturn, 1) := by decide +kernel
theorem d_T_first_0 : decode b_T_first 0 = .ok (.iconst 0, 1) := by decide +kernel
theorem d_T_first_1 : decode b_T_first 1 = .ok (.istore_n 1, 1) := by decide +kernel
theorem d_T_first_2 : decode b_T_first 2 = .ok (.aload_n 0, 1) := by decide +kernel
theorem d_T_first_3 : decode b_T_first 3 = .ok (.getfield 19, 3) := by decide +kernel
theorem d_T_first_6 : decode b_T_first 6 = .ok (.istore_n 2, 1) := by decide +kernel
theorem d_T_first_7 : decode b_T_first 7 = .ok (.iload_n 2, 1) := by decide +kernel
theorem d_T_first_8 : decode b_T_first 8 = .ok (.ifCond .le 37, 3) := by decide +kernel
theorem d_T_first_11 : decode b_T_first 11 = .ok (.iload_n 2, 1) := by decide +kernel
theorem d_T_first_12 : decode b_T_first 12 = .ok (.iconst 2, 1) := by decide +kernel
theorem d_T_first_13 : decode b_T_first 13 = .ok (.idiv, 1) := by decide +kernel
theorem d_T_first_14 : decode b_T_first 14 = .ok (.istore_n 3, 1) := by decide +kernel
theorem d_T_first_15 : decode b_T_first 15 = .ok (.aload_n 0, 1) := by decide +kernel
theorem d_T_first_16 : decode b_T_first 16 = .ok (.iload_n 1, 1) := by decide +kernel
theorem d_T_first_17 : decode b_T_first 17 = .ok (.iload_n 3, 1) := by decide +kernel
theorem d_T_first_18 : decode b_T_first 18 = .ok (.iadd, 1) := by decide +kernel
theorem d_T_first_19 : decode b_T_first 19 = .ok (.invokevirtual 62, 3) := by decide +kernel
theorem d_T_first_22 : decode b_T_first 22 = .ok (.ifCond .ge 18, 3) := by decide +kernel
theorem d_T_first_25 : decode b_T_first 25 = .ok (.iload_n 1, 1) := by decide +kernel
theorem d_T_first_26 : decode b_T_first 26 = .ok (.iload_n 3, 1) := by decide +kernel
theorem d_T_first_27 : decode b_T_first 27 = .ok (.iconst 1, 1) := by decide +kernel
theorem d_T_first_28 : decode b_T_first 28 = .ok (.iadd, 1) := by decide +kernel
theorem d_T_first_29 : decode b_T_first 29 = .ok (.iadd, 1) := by decide +kernel
theorem d_T_first_30 : decode b_T_first 30 = .ok (.istore_n 1, 1) := by decide +kernel
theorem d_T_first_31 : decode b_T_first 31 = .ok (.iload_n 2, 1) := by decide +kernel
theorem d_T_first_32 : decode b_T_first 32 = .ok (.iload_n 3, 1) := by decide +kernel
theorem d_T_first_33 : decode b_T_first 33 = .ok (.iconst 1, 1) := by decide +kernel
theorem d_T_first_34 : decode b_T_first 34 = .ok (.iadd, 1) := by decide +kernel
theorem d_T_first_35 : decode b_T_first 35 = .ok (.isub, 1) := by decide +kernel
theorem d_T_first_36 : decode b_T_first 36 = .ok (.istore_n 2, 1) := by decide +kernel
theorem d_T_first_37 : decode b_T_first 37 = .ok (.goto 5, 3) := by decide +kernel
theorem d_T_first_40 : decode b_T_first 40 = .ok (.iload_n 3, 1) := by decide +kernel
theorem d_T_first_41 : decode b_T_first 41 = .ok (.istore_n 2, 1) := by decide +kernel
theorem d_T_first_42 : decode b_T_first 42 = .ok (.goto (-35), 3) := by decide +kernel
theorem d_T_first_45 : decode b_T_first 45 = .ok (.iload_n 1, 1) := by decide +kernel
theorem d_T_first_46 : decode b_T_first 46 = .ok (.ireturn, 1) := by decide +kernel
theorem d_T_insert_0 : decode b_T_insert 0 = .ok (.iload_n 1, 1) := by decide +kernel
theorem d_T_insert_1 : decode b_T_insert 1 = .ok (.bipush 7, 2) := by decide +kernel
theorem d_T_insert_3 : decode b_T_insert 3 = .ok (.imul, 1) := by decide +kernel
theorem d_T_insert_4 : decode b_T_insert 4 = .ok (.istore_n 2, 1) := by decide +kernel
theorem d_T_insert_5 : decode b_T_insert 5 = .ok (.aload_n 0, 1) := by decide +kernel
theorem d_T_insert_6 : decode b_T_insert 6 = .ok (.getfield 15, 3) := by decide +kernel
theorem d_T_insert_9 : decode b_T_insert 9 = .ok (.iload_n 2, 1) := by decide +kernel
theorem d_T_insert_10 : decode b_T_insert 10 = .ok (.aload_n 0, 1) := by decide +kernel
theorem d_T_insert_11 : decode b_T_insert 11 = .ok (.getfield 15, 3) := by decide +kernel
theorem d_T_insert_14 : decode b_T_insert 14 = .ok (.iload_n 2, 1) := by decide +kernel
theorem d_T_insert_15 : decode b_T_insert 15 = .ok (.bipush 7, 2) := by decide +kernel
theorem d_T_insert_17 : decode b_T_insert 17 = .ok (.iadd, 1) := by decide +kernel
theorem d_T_insert_18 : decode b_T_insert 18 = .ok (.aload_n 0, 1) := by decide +kernel
theorem d_T_insert_19 : decode b_T_insert 19 = .ok (.getfield 19, 3) := by decide +kernel
theorem d_T_insert_22 : decode b_T_insert 22 = .ok (.iload_n 1, 1) := by decide +kernel
theorem d_T_insert_23 : decode b_T_insert 23 = .ok (.isub, 1) := by decide +kernel
theorem d_T_insert_24 : decode b_T_insert 24 = .ok (.bipush 7, 2) := by decide +kernel
theorem d_T_insert_26 : decode b_T_insert 26 = .ok (.imul, 1) := by decide +kernel
theorem d_T_insert_27 : decode b_T_insert 27 = .ok (.invokestatic 83, 3) := by decide +kernel
theorem d_T_insert_30 : decode b_T_insert 30 = .ok (.iconst 0, 1) := by decide +kernel
theorem d_T_insert_31 : decode b_T_insert 31 = .ok (.istore_n 3, 1) := by decide +kernel
theorem d_T_insert_32 : decode b_T_insert 32 = .ok (.iload_n 3, 1) := by decide +kernel
theorem d_T_insert_33 : decode b_T_insert 33 = .ok (.bipush 6, 2) := by decide +kernel
theorem d_T_insert_35 : decode b_T_insert 35 = .ok (.if_icmp .ge 25, 3) := by decide +kernel
theorem d_T_insert_38 : decode b_T_insert 38 = .ok (.aload_n 0, 1) := by decide +kernel
theorem d_T_insert_39 : decode b_T_insert 39 = .ok (.getfield 15, 3) := by decide +kernel
theorem d_T_insert_42 : decode b_T_insert 42 = .ok (.iload_n 2, 1) := by decide +kernel
theorem d_T_insert_43 : decode b_T_insert 43 = .ok (.iload_n 3, 1) := by decide +kernel
theorem d_T_insert_44 : decode b_T_insert 44 = .ok (.iadd, 1) := by decide +kernel
theorem d_T_insert_45 : decode b_T_insert 45 = .ok (.aload_n 0, 1) := by decide +kernel
theorem d_T_insert_46 : decode b_T_insert 46 = .ok (.getfield 9, 3) := by decide +kernel
theorem d_T_insert_49 : decode b_T_insert 49 = .ok (.iload_n 3, 1) := by decide +kernel
theorem d_T_insert_50 : decode b_T_insert 50 = .ok (.invokevirtual 74, 3) := by decide +kernel
theorem d_T_insert_53 : decode b_T_insert 53 = .ok (.lastore, 1) := by decide +kernel
theorem d_T_insert_54 : decode b_T_insert 54 = .ok (.iinc 3 1, 3) := by decide +kernel
theorem d_T_insert_57 : decode b_T_insert 57 = .ok (.goto (-25), 3) := by decide +kernel
theorem d_T_insert_60 : decode b_T_insert 60 = .ok (.aload_n 0, 1) := by decide +kernel
theorem d_T_insert_61 : decode b_T_insert 61 = .ok (.getfield 15, 3) := by decide +kernel
theorem d_T_insert_64 : decode b_T_insert 64 = .ok (.iload_n 2, 1) := by decide +kernel
theorem d_T_insert_65 : decode b_T_insert 65 = .ok (.bipush 6, 2) := by decide +kernel
theorem d_T_insert_67 : decode b_T_insert 67 = .ok (.iadd, 1) := by decide +kernel
theorem d_T_insert_68 : decode b_T_insert 68 = .ok (.lconst 0, 1) := by decide +kernel
theorem d_T_insert_69 : decode b_T_insert 69 = .ok (.lastore, 1) := by decide +kernel
theorem d_T_insert_70 : decode b_T_insert 70 = .ok (.aload_n 0, 1) := by decide +kernel
theorem d_T_insert_71 : decode b_T_insert 71 = .ok (.dup, 1) := by decide +kernel
theorem d_T_insert_72 : decode b_T_insert 72 = .ok (.getfield 19, 3) := by decide +kernel
theorem d_T_insert_75 : decode b_T_insert 75 = .ok (.iconst 1, 1) := by decide +kernel
theorem d_T_insert_76 : decode b_T_insert 76 = .ok (.iadd, 1) := by decide +kernel
theorem d_T_insert_77 : decode b_T_insert 77 = .ok (.putfield 19, 3) := by decide +kernel
theorem d_T_insert_80 : decode b_T_insert 80 = .ok (.return_, 1) := by decide +kernel
theorem d_T_count_0 : decode b_T_count 0 = .ok (.aload_n 0, 1) := by decide +kernel
theorem d_T_count_1 : decode b_T_count 1 = .ok (.invokevirtual 58, 3) := by decide +kernel
theorem d_T_count_4 : decode b_T_count 4 = .ok (.istore_n 1, 1) := by decide +kernel
theorem d_T_count_5 : decode b_T_count 5 = .ok (.iload_n 1, 1) := by decide +kernel
theorem d_T_count_6 : decode b_T_count 6 = .ok (.ifCond .lt 10, 3) := by decide +kernel
theorem d_T_count_9 : decode b_T_count 9 = .ok (.iload_n 1, 1) := by decide +kernel
theorem d_T_count_10 : decode b_T_count 10 = .ok (.sipush 455, 3) := by decide +kernel
theorem d_T_count_13 : decode b_T_count 13 = .ok (.if_icmp .lt 4, 3) := by decide +kernel
theorem d_T_count_16 : decode b_T_count 16 = .ok (.return_, 1) := by decide +kernel
theorem d_T_count_17 : decode b_T_count 17 = .ok (.iload_n 1, 1) := by decide +kernel
theorem d_T_count_18 : decode b_T_count 18 = .ok (.aload_n 0, 1) := by decide +kernel
theorem d_T_count_19 : decode b_T_count 19 = .ok (.getfield 19, 3) := by decide +kernel
theorem d_T_count_22 : decode b_T_count 22 = .ok (.if_icmp .ge 11, 3) := by decide +kernel
theorem d_T_count_25 : decode b_T_count 25 = .ok (.aload_n 0, 1) := by decide +kernel
theorem d_T_count_26 : decode b_T_count 26 = .ok (.iload_n 1, 1) := by decide +kernel
theorem d_T_count_27 : decode b_T_count 27 = .ok (.invokevirtual 62, 3) := by decide +kernel
theorem d_T_count_30 : decode b_T_count 30 = .ok (.ifCond .eq 19, 3) := by decide +kernel
theorem d_T_count_33 : decode b_T_count 33 = .ok (.aload_n 0, 1) := by decide +kernel
theorem d_T_count_34 : decode b_T_count 34 = .ok (.getfield 19, 3) := by decide +kernel
theorem d_T_count_37 : decode b_T_count 37 = .ok (.sipush 455, 3) := by decide +kernel
theorem d_T_count_40 : decode b_T_count 40 = .ok (.if_icmp .lt 4, 3) := by decide +kernel
theorem d_T_count_43 : decode b_T_count 43 = .ok (.return_, 1) := by decide +kernel
theorem d_T_count_44 : decode b_T_count 44 = .ok (.aload_n 0, 1) := by decide +kernel
theorem d_T_count_45 : decode b_T_count 45 = .ok (.iload_n 1, 1) := by decide +kernel
theorem d_T_count_46 : decode b_T_count 46 = .ok (.invokevirtual 66, 3) := by decide +kernel
theorem d_T_count_49 : decode b_T_count 49 = .ok (.aload_n 0, 1) := by decide +kernel
theorem d_T_count_50 : decode b_T_count 50 = .ok (.getfield 15, 3) := by decide +kernel
theorem d_T_count_53 : decode b_T_count 53 = .ok (.iload_n 1, 1) := by decide +kernel
theorem d_T_count_54 : decode b_T_count 54 = .ok (.bipush 7, 2) := by decide +kernel
theorem d_T_count_56 : decode b_T_count 56 = .ok (.imul, 1) := by decide +kernel
theorem d_T_count_57 : decode b_T_count 57 = .ok (.bipush 6, 2) := by decide +kernel
theorem d_T_count_59 : decode b_T_count 59 = .ok (.iadd, 1) := by decide +kernel
theorem d_T_count_60 : decode b_T_count 60 = .ok (.dup2, 1) := by decide +kernel
theorem d_T_count_61 : decode b_T_count 61 = .ok (.laload, 1) := by decide +kernel
theorem d_T_count_62 : decode b_T_count 62 = .ok (.lconst 1, 1) := by decide +kernel
theorem d_T_count_63 : decode b_T_count 63 = .ok (.ladd, 1) := by decide +kernel
theorem d_T_count_64 : decode b_T_count 64 = .ok (.lastore, 1) := by decide +kernel
theorem d_T_count_65 : decode b_T_count 65 = .ok (.return_, 1) := by decide +kernel
theorem d_T_edges_0 : decode b_T_edges 0 = .ok (.aload_n 0, 1) := by decide +kernel
theorem d_T_edges_1 : decode b_T_edges 1 = .ok (.getfield 9, 3) := by decide +kernel
theorem d_T_edges_4 : decode b_T_edges 4 = .ok (.aload_n 1, 1) := by decide +kernel
theorem d_T_edges_5 : decode b_T_edges 5 = .ok (.iload_n 2, 1) := by decide +kernel
theorem d_T_edges_6 : decode b_T_edges 6 = .ok (.i2l, 1) := by decide +kernel
theorem d_T_edges_7 : decode b_T_edges 7 = .ok (.lconst 0, 1) := by decide +kernel
theorem d_T_edges_8 : decode b_T_edges 8 = .ok (.lconst 0, 1) := by decide +kernel
theorem d_T_edges_9 : decode b_T_edges 9 = .ok (.iload_n 2, 1) := by decide +kernel
theorem d_T_edges_10 : decode b_T_edges 10 = .ok (.i2l, 1) := by decide +kernel
theorem d_T_edges_11 : decode b_T_edges 11 = .ok (.lconst 0, 1) := by decide +kernel
theorem d_T_edges_12 : decode b_T_edges 12 = .ok (.lconst 0, 1) := by decide +kernel
theorem d_T_edges_13 : decode b_T_edges 13 = .ok (.invokevirtual 40, 3) := by decide +kernel
theorem d_T_edges_16 : decode b_T_edges 16 = .ok (.aload_n 1, 1) := by decide +kernel
theorem d_T_edges_17 : decode b_T_edges 17 = .ok (.iload_n 3, 1) := by decide +kernel
theorem d_T_edges_18 : decode b_T_edges 18 = .ok (.i2l, 1) := by decide +kernel
theorem d_T_edges_19 : decode b_T_edges 19 = .ok (.iload 4, 2) := by decide +kernel
theorem d_T_edges_21 : decode b_T_edges 21 = .ok (.i2l, 1) := by decide +kernel
theorem d_T_edges_22 : decode b_T_edges 22 = .ok (.lconst 0, 1) := by decide +kernel
theorem d_T_edges_23 : decode b_T_edges 23 = .ok (.iload_n 3, 1) := by decide +kernel
theorem d_T_edges_24 : decode b_T_edges 24 = .ok (.i2l, 1) := by decide +kernel
theorem d_T_edges_25 : decode b_T_edges 25 = .ok (.iload 4, 2) := by decide +kernel
theorem d_T_edges_27 : decode b_T_edges 27 = .ok (.i2l, 1) := by decide +kernel
theorem d_T_edges_28 : decode b_T_edges 28 = .ok (.lconst 0, 1) := by decide +kernel
theorem d_T_edges_29 : decode b_T_edges 29 = .ok (.invokevirtual 40, 3) := by decide +kernel
theorem d_T_edges_32 : decode b_T_edges 32 = .ok (.aload_n 1, 1) := by decide +kernel
theorem d_T_edges_33 : decode b_T_edges 33 = .ok (.iload 5, 2) := by decide +kernel
theorem d_T_edges_35 : decode b_T_edges 35 = .ok (.i2l, 1) := by decide +kernel
theorem d_T_edges_36 : decode b_T_edges 36 = .ok (.iload 6, 2) := by decide +kernel
theorem d_T_edges_38 : decode b_T_edges 38 = .ok (.i2l, 1) := by decide +kernel
theorem d_T_edges_39 : decode b_T_edges 39 = .ok (.iload 7, 2) := by decide +kernel
theorem d_T_edges_41 : decode b_T_edges 41 = .ok (.i2l, 1) := by decide +kernel
theorem d_T_edges_42 : decode b_T_edges 42 = .ok (.iload 5, 2) := by decide +kernel
theorem d_T_edges_44 : decode b_T_edges 44 = .ok (.i2l, 1) := by decide +kernel
theorem d_T_edges_45 : decode b_T_edges 45 = .ok (.iload 6, 2) := by decide +kernel
theorem d_T_edges_47 : decode b_T_edges 47 = .ok (.i2l, 1) := by decide +kernel
theorem d_T_edges_48 : decode b_T_edges 48 = .ok (.iload 7, 2) := by decide +kernel
theorem d_T_edges_50 : decode b_T_edges 50 = .ok (.i2l, 1) := by decide +kernel
theorem d_T_edges_51 : decode b_T_edges 51 = .ok (.invokevirtual 40, 3) := by decide +kernel
theorem d_T_edges_54 : decode b_T_edges 54 = .ok (.invokevirtual 46, 3) := by decide +kernel
theorem d_T_edges_57 : decode b_T_edges 57 = .ok (.aload_n 0, 1) := by decide +kernel
theorem d_T_edges_58 : decode b_T_edges 58 = .ok (.getfield 9, 3) := by decide +kernel
theorem d_T_edges_61 : decode b_T_edges 61 = .ok (.aload_n 1, 1) := by decide +kernel
theorem d_T_edges_62 : decode b_T_edges 62 = .ok (.iload_n 3, 1) := by decide +kernel
theorem d_T_edges_63 : decode b_T_edges 63 = .ok (.i2l, 1) := by decide +kernel
theorem d_T_edges_64 : decode b_T_edges 64 = .ok (.iload 4, 2) := by decide +kernel
theorem d_T_edges_66 : decode b_T_edges 66 = .ok (.i2l, 1) := by decide +kernel
theorem d_T_edges_67 : decode b_T_edges 67 = .ok (.lconst 0, 1) := by decide +kernel
theorem d_T_edges_68 : decode b_T_edges 68 = .ok (.iload 5, 2) := by decide +kernel
theorem d_T_edges_70 : decode b_T_edges 70 = .ok (.i2l, 1) := by decide +kernel
theorem d_T_edges_71 : decode b_T_edges 71 = .ok (.iload 6, 2) := by decide +kernel
theorem d_T_edges_73 : decode b_T_edges 73 = .ok (.i2l, 1) := by decide +kernel
theorem d_T_edges_74 : decode b_T_edges 74 = .ok (.iload 7, 2) := by decide +kernel
theorem d_T_edges_76 : decode b_T_edges 76 = .ok (.i2l, 1) := by decide +kernel
theorem d_T_edges_77 : decode b_T_edges 77 = .ok (.invokevirtual 40, 3) := by decide +kernel
theorem d_T_edges_80 : decode b_T_edges 80 = .ok (.aload_n 1, 1) := by decide +kernel
theorem d_T_edges_81 : decode b_T_edges 81 = .ok (.iload_n 2, 1) := by decide +kernel
theorem d_T_edges_82 : decode b_T_edges 82 = .ok (.i2l, 1) := by decide +kernel
theorem d_T_edges_83 : decode b_T_edges 83 = .ok (.lconst 0, 1) := by decide +kernel
theorem d_T_edges_84 : decode b_T_edges 84 = .ok (.lconst 0, 1) := by decide +kernel
theorem d_T_edges_85 : decode b_T_edges 85 = .ok (.iload 5, 2) := by decide +kernel
theorem d_T_edges_87 : decode b_T_edges 87 = .ok (.i2l, 1) := by decide +kernel
theorem d_T_edges_88 : decode b_T_edges 88 = .ok (.iload 6, 2) := by decide +kernel
theorem d_T_edges_90 : decode b_T_edges 90 = .ok (.i2l, 1) := by decide +kernel
theorem d_T_edges_91 : decode b_T_edges 91 = .ok (.iload 7, 2) := by decide +kernel
theorem d_T_edges_93 : decode b_T_edges 93 = .ok (.i2l, 1) := by decide +kernel
theorem d_T_edges_94 : decode b_T_edges 94 = .ok (.invokevirtual 40, 3) := by decide +kernel
theorem d_T_edges_97 : decode b_T_edges 97 = .ok (.aload_n 1, 1) := by decide +kernel
theorem d_T_edges_98 : decode b_T_edges 98 = .ok (.iload_n 2, 1) := by decide +kernel
theorem d_T_edges_99 : decode b_T_edges 99 = .ok (.i2l, 1) := by decide +kernel
theorem d_T_edges_100 : decode b_T_edges 100 = .ok (.lconst 0, 1) := by decide +kernel
theorem d_T_edges_101 : decode b_T_edges 101 = .ok (.lconst 0, 1) := by decide +kernel
theorem d_T_edges_102 : decode b_T_edges 102 = .ok (.iload_n 3, 1) := by decide +kernel
theorem d_T_edges_103 : decode b_T_edges 103 = .ok (.i2l, 1) := by decide +kernel
theorem d_T_edges_104 : decode b_T_edges 104 = .ok (.iload 4, 2) := by decide +kernel
theorem d_T_edges_106 : decode b_T_edges 106 = .ok (.i2l, 1) := by decide +kernel
theorem d_T_edges_107 : decode b_T_edges 107 = .ok (.lconst 0, 1) := by decide +kernel
theorem d_T_edges_108 : decode b_T_edges 108 = .ok (.invokevirtual 40, 3) := by decide +kernel
theorem d_T_edges_111 : decode b_T_edges 111 = .ok (.invokevirtual 52, 3) := by decide +kernel
theorem d_T_edges_114 : decode b_T_edges 114 = .ok (.aload_n 0, 1) := by decide +kernel
theorem d_T_edges_115 : decode b_T_edges 115 = .ok (.getfield 9, 3) := by decide +kernel
theorem d_T_edges_118 : decode b_T_edges 118 = .ok (.invokevirtual 55, 3) := by decide +kernel
theorem d_T_edges_121 : decode b_T_edges 121 = .ok (.return_, 1) := by decide +kernel
theorem d_T_addAll_0 : decode b_T_addAll 0 = .ok (.iconst 0, 1) := by decide +kernel
theorem d_T_addAll_1 : decode b_T_addAll 1 = .ok (.istore 5, 2) := by decide +kernel
theorem d_T_addAll_3 : decode b_T_addAll 3 = .ok (.iload 5, 2) := by decide +kernel
theorem d_T_addAll_5 : decode b_T_addAll 5 = .ok (.iload_n 2, 1) := by decide +kernel
theorem d_T_addAll_6 : decode b_T_addAll 6 = .ok (.if_icmp .ge 58, 3) := by decide +kernel
theorem d_T_addAll_9 : decode b_T_addAll 9 = .ok (.iconst 0, 1) := by decide +kernel
theorem d_T_addAll_10 : decode b_T_addAll 10 = .ok (.istore 6, 2) := by decide +kernel
theorem d_T_addAll_12 : decode b_T_addAll 12 = .ok (.iload 6, 2) := by decide +kernel
theorem d_T_addAll_14 : decode b_T_addAll 14 = .ok (.iload_n 2, 1) := by decide +kernel
theorem d_T_addAll_15 : decode b_T_addAll 15 = .ok (.if_icmp .ge 43, 3) := by decide +kernel
theorem d_T_addAll_18 : decode b_T_addAll 18 = .ok (.iconst 0, 1) := by decide +kernel
theorem d_T_addAll_19 : decode b_T_addAll 19 = .ok (.istore 7, 2) := by decide +kernel
theorem d_T_addAll_21 : decode b_T_addAll 21 = .ok (.iload 7, 2) := by decide +kernel
theorem d_T_addAll_23 : decode b_T_addAll 23 = .ok (.iload_n 3, 1) := by decide +kernel
theorem d_T_addAll_24 : decode b_T_addAll 24 = .ok (.if_icmp .ge 28, 3) := by decide +kernel
theorem d_T_addAll_27 : decode b_T_addAll 27 = .ok (.aload_n 0, 1) := by decide +kernel
theorem d_T_addAll_28 : decode b_T_addAll 28 = .ok (.aload_n 1, 1) := by decide +kernel
theorem d_T_addAll_29 : decode b_T_addAll 29 = .ok (.iload_n 2, 1) := by decide +kernel
theorem d_T_addAll_30 : decode b_T_addAll 30 = .ok (.iload 5, 2) := by decide +kernel
theorem d_T_addAll_32 : decode b_T_addAll 32 = .ok (.iload_n 3, 1) := by decide +kernel
theorem d_T_addAll_33 : decode b_T_addAll 33 = .ok (.iload 6, 2) := by decide +kernel
theorem d_T_addAll_35 : decode b_T_addAll 35 = .ok (.iload 7, 2) := by decide +kernel
theorem d_T_addAll_37 : decode b_T_addAll 37 = .ok (.iload 4, 2) := by decide +kernel
theorem d_T_addAll_39 : decode b_T_addAll 39 = .ok (.invokevirtual 33, 3) := by decide +kernel
theorem d_T_addAll_42 : decode b_T_addAll 42 = .ok (.aload_n 0, 1) := by decide +kernel
theorem d_T_addAll_43 : decode b_T_addAll 43 = .ok (.invokevirtual 37, 3) := by decide +kernel
theorem d_T_addAll_46 : decode b_T_addAll 46 = .ok (.iinc 7 1, 3) := by decide +kernel
theorem d_T_addAll_49 : decode b_T_addAll 49 = .ok (.goto (-28), 3) := by decide +kernel
theorem d_T_addAll_52 : decode b_T_addAll 52 = .ok (.iinc 6 1, 3) := by decide +kernel
theorem d_T_addAll_55 : decode b_T_addAll 55 = .ok (.goto (-43), 3) := by decide +kernel
theorem d_T_addAll_58 : decode b_T_addAll 58 = .ok (.iinc 5 1, 3) := by decide +kernel
theorem d_T_addAll_61 : decode b_T_addAll 61 = .ok (.goto (-58), 3) := by decide +kernel
theorem d_T_addAll_64 : decode b_T_addAll 64 = .ok (.return_, 1) := by decide +kernel
theorem d_T_fill_0 : decode b_T_fill 0 = .ok (.aload_n 0, 1) := by decide +kernel
theorem d_T_fill_1 : decode b_T_fill 1 = .ok (.getfield 23, 3) := by decide +kernel
theorem d_T_fill_4 : decode b_T_fill 4 = .ok (.iload_n 1, 1) := by decide +kernel
theorem d_T_fill_5 : decode b_T_fill 5 = .ok (.if_icmp .ne 12, 3) := by decide +kernel
theorem d_T_fill_8 : decode b_T_fill 8 = .ok (.aload_n 0, 1) := by decide +kernel
theorem d_T_fill_9 : decode b_T_fill 9 = .ok (.getfield 26, 3) := by decide +kernel
theorem d_T_fill_12 : decode b_T_fill 12 = .ok (.iload_n 3, 1) := by decide +kernel
theorem d_T_fill_13 : decode b_T_fill 13 = .ok (.if_icmp .ne 4, 3) := by decide +kernel
theorem d_T_fill_16 : decode b_T_fill 16 = .ok (.return_, 1) := by decide +kernel
theorem d_T_fill_17 : decode b_T_fill 17 = .ok (.aload_n 0, 1) := by decide +kernel
theorem d_T_fill_18 : decode b_T_fill 18 = .ok (.iload_n 1, 1) := by decide +kernel
theorem d_T_fill_19 : decode b_T_fill 19 = .ok (.putfield 23, 3) := by decide +kernel
theorem d_T_fill_22 : decode b_T_fill 22 = .ok (.aload_n 0, 1) := by decide +kernel
theorem d_T_fill_23 : decode b_T_fill 23 = .ok (.iload_n 3, 1) := by decide +kernel
theorem d_T_fill_24 : decode b_T_fill 24 = .ok (.putfield 26, 3) := by decide +kernel
theorem d_T_fill_27 : decode b_T_fill 27 = .ok (.aload_n 0, 1) := by decide +kernel
theorem d_T_fill_28 : decode b_T_fill 28 = .ok (.iconst 0, 1) := by decide +kernel
theorem d_T_fill_29 : decode b_T_fill 29 = .ok (.putfield 19, 3) := by decide +kernel
theorem d_T_fill_32 : decode b_T_fill 32 = .ok (.iconst 1, 1) := by decide +kernel
theorem d_T_fill_33 : decode b_T_fill 33 = .ok (.istore 4, 2) := by decide +kernel
theorem d_T_fill_35 : decode b_T_fill 35 = .ok (.iload 4, 2) := by decide +kernel
theorem d_T_fill_37 : decode b_T_fill 37 = .ok (.iload_n 3, 1) := by decide +kernel
theorem d_T_fill_38 : decode b_T_fill 38 = .ok (.if_icmp .gt 53, 3) := by decide +kernel
theorem d_T_fill_41 : decode b_T_fill 41 = .ok (.iconst 1, 1) := by decide +kernel
theorem d_T_fill_42 : decode b_T_fill 42 = .ok (.istore 5, 2) := by decide +kernel
theorem d_T_fill_44 : decode b_T_fill 44 = .ok (.iload 4, 2) := by decide +kernel
theorem d_T_fill_46 : decode b_T_fill 46 = .ok (.iload 5, 2) := by decide +kernel
theorem d_T_fill_48 : decode b_T_fill 48 = .ok (.imul, 1) := by decide +kernel
theorem d_T_fill_49 : decode b_T_fill 49 = .ok (.iload_n 3, 1) := by decide +kernel
theorem d_T_fill_50 : decode b_T_fill 50 = .ok (.if_icmp .gt 35, 3) := by decide +kernel
theorem d_T_fill_53 : decode b_T_fill 53 = .ok (.iload_n 3, 1) := by decide +kernel
theorem d_T_fill_54 : decode b_T_fill 54 = .ok (.iload 4, 2) := by decide +kernel
theorem d_T_fill_56 : decode b_T_fill 56 = .ok (.iload 5, 2) := by decide +kernel
theorem d_T_fill_58 : decode b_T_fill 58 = .ok (.imul, 1) := by decide +kernel
theorem d_T_fill_59 : decode b_T_fill 59 = .ok (.irem, 1) := by decide +kernel
theorem d_T_fill_60 : decode b_T_fill 60 = .ok (.ifCond .ne 19, 3) := by decide +kernel
theorem d_T_fill_63 : decode b_T_fill 63 = .ok (.aload_n 0, 1) := by decide +kernel
theorem d_T_fill_64 : decode b_T_fill 64 = .ok (.aload_n 2, 1) := by decide +kernel
theorem d_T_fill_65 : decode b_T_fill 65 = .ok (.iload 4, 2) := by decide +kernel
theorem d_T_fill_67 : decode b_T_fill 67 = .ok (.iload 5, 2) := by decide +kernel
theorem d_T_fill_69 : decode b_T_fill 69 = .ok (.iload_n 3, 1) := by decide +kernel
theorem d_T_fill_70 : decode b_T_fill 70 = .ok (.iload 4, 2) := by decide +kernel
theorem d_T_fill_72 : decode b_T_fill 72 = .ok (.iload 5, 2) := by decide +kernel
theorem d_T_fill_74 : decode b_T_fill 74 = .ok (.imul, 1) := by decide +kernel
theorem d_T_fill_75 : decode b_T_fill 75 = .ok (.idiv, 1) := by decide +kernel
theorem d_T_fill_76 : decode b_T_fill 76 = .ok (.invokevirtual 29, 3) := by decide +kernel
theorem d_T_fill_79 : decode b_T_fill 79 = .ok (.iinc 5 1, 3) := by decide +kernel
theorem d_T_fill_82 : decode b_T_fill 82 = .ok (.goto (-38), 3) := by decide +kernel
theorem d_T_fill_85 : decode b_T_fill 85 = .ok (.iinc 4 1, 3) := by decide +kernel
theorem d_T_fill_88 : decode b_T_fill 88 = .ok (.goto (-53), 3) := by decide +kernel
theorem d_T_fill_91 : decode b_T_fill 91 = .ok (.return_, 1) := by decide +kernel
theorem d_T_ordO_0 : decode b_T_ordO 0 = .ok (.iconst 0, 1) := by decide +kernel
theorem d_T_ordO_1 : decode b_T_ordO 1 = .ok (.istore 4, 2) := by decide +kernel
theorem d_T_ordO_3 : decode b_T_ordO 3 = .ok (.iload 4, 2) := by decide +kernel
theorem d_T_ordO_5 : decode b_T_ordO 5 = .ok (.bipush 6, 2) := by decide +kernel
theorem d_T_ordO_7 : decode b_T_ordO 7 = .ok (.if_icmp .ge 36, 3) := by decide +kernel
theorem d_T_ordO_10 : decode b_T_ordO 10 = .ok (.aload_n 0, 1) := by decide +kernel
theorem d_T_ordO_11 : decode b_T_ordO 11 = .ok (.iload_n 1, 1) := by decide +kernel
theorem d_T_ordO_12 : decode b_T_ordO 12 = .ok (.iload 4, 2) := by decide +kernel
theorem d_T_ordO_14 : decode b_T_ordO 14 = .ok (.invokevirtual 70, 3) := by decide +kernel
theorem d_T_ordO_17 : decode b_T_ordO 17 = .ok (.aload_n 2, 1) := by decide +kernel
theorem d_T_ordO_18 : decode b_T_ordO 18 = .ok (.iload_n 3, 1) := by decide +kernel
theorem d_T_ordO_19 : decode b_T_ordO 19 = .ok (.iload 4, 2) := by decide +kernel
theorem d_T_ordO_21 : decode b_T_ordO 21 = .ok (.invokevirtual 70, 3) := by decide +kernel
theorem d_T_ordO_24 : decode b_T_ordO 24 = .ok (.invokestatic 77, 3) := by decide +kernel
theorem d_T_ordO_27 : decode b_T_ordO 27 = .ok (.istore 5, 2) := by decide +kernel
theorem d_T_ordO_29 : decode b_T_ordO 29 = .ok (.iload 5, 2) := by decide +kernel
theorem d_T_ordO_31 : decode b_T_ordO 31 = .ok (.ifCond .eq 6, 3) := by decide +kernel
theorem d_T_ordO_34 : decode b_T_ordO 34 = .ok (.iload 5, 2) := by decide +kernel
theorem d_T_ordO_36 : decode b_T_ordO 36 = .ok (.ireturn, 1) := by decide +kernel
theorem d_T_ordO_37 : decode b_T_ordO 37 = .ok (.iinc 4 1, 3) := by decide +kernel
theorem d_T_ordO_40 : decode b_T_ordO 40 = .ok (.goto (-37), 3) := by decide +kernel
theorem d_T_ordO_43 : decode b_T_ordO 43 = .ok (.iconst 0, 1) := by decide +kernel
theorem d_T_ordO_44 : decode b_T_ordO 44 = .ok (.ireturn, 1) := by decide +kernel
theorem d_T_shared_0 : decode b_T_shared 0 = .ok (.iconst 0, 1) := by decide +kernel
theorem d_T_shared_1 : decode b_T_shared 1 = .ok (.istore_n 2, 1) := by decide +kernel
theorem d_T_shared_2 : decode b_T_shared 2 = .ok (.iconst 0, 1) := by decide +kernel
theorem d_T_shared_3 : decode b_T_shared 3 = .ok (.istore_n 3, 1) := by decide +kernel
theorem d_T_shared_4 : decode b_T_shared 4 = .ok (.iconst 0, 1) := by decide +kernel
theorem d_T_shared_5 : decode b_T_shared 5 = .ok (.istore 4, 2) := by decide +kernel
theorem d_T_shared_7 : decode b_T_shared 7 = .ok (.iload 4, 2) := by decide +kernel
theorem d_T_shared_9 : decode b_T_shared 9 = .ok (.aload_n 0, 1) := by decide +kernel
theorem d_T_shared_10 : decode b_T_shared 10 = .ok (.getfield 19, 3) := by decide +kernel
theorem d_T_shared_13 : decode b_T_shared 13 = .ok (.if_icmp .ge 56, 3) := by decide +kernel
theorem d_T_shared_16 : decode b_T_shared 16 = .ok (.iload_n 3, 1) := by decide +kernel
theorem d_T_shared_17 : decode b_T_shared 17 = .ok (.aload_n 1, 1) := by decide +kernel
theorem d_T_shared_18 : decode b_T_shared 18 = .ok (.getfield 19, 3) := by decide +kernel
theorem d_T_shared_21 : decode b_T_shared 21 = .ok (.if_icmp .ge 20, 3) := by decide +kernel
theorem d_T_shared_24 : decode b_T_shared 24 = .ok (.aload_n 0, 1) := by decide +kernel
theorem d_T_shared_25 : decode b_T_shared 25 = .ok (.iload 4, 2) := by decide +kernel
theorem d_T_shared_27 : decode b_T_shared 27 = .ok (.aload_n 1, 1) := by decide +kernel
theorem d_T_shared_28 : decode b_T_shared 28 = .ok (.iload_n 3, 1) := by decide +kernel
theorem d_T_shared_29 : decode b_T_shared 29 = .ok (.invokevirtual 89, 3) := by decide +kernel
theorem d_T_shared_32 : decode b_T_shared 32 = .ok (.ifCond .le 9, 3) := by decide +kernel
theorem d_T_shared_35 : decode b_T_shared 35 = .ok (.iinc 3 1, 3) := by decide +kernel
theorem d_T_shared_38 : decode b_T_shared 38 = .ok (.goto (-22), 3) := by decide +kernel
theorem d_T_shared_41 : decode b_T_shared 41 = .ok (.iload_n 3, 1) := by decide +kernel
theorem d_T_shared_42 : decode b_T_shared 42 = .ok (.aload_n 1, 1) := by decide +kernel
theorem d_T_shared_43 : decode b_T_shared 43 = .ok (.getfield 19, 3) := by decide +kernel
theorem d_T_shared_46 : decode b_T_shared 46 = .ok (.if_icmp .ge 17, 3) := by decide +kernel
theorem d_T_shared_49 : decode b_T_shared 49 = .ok (.aload_n 0, 1) := by decide +kernel
theorem d_T_shared_50 : decode b_T_shared 50 = .ok (.iload 4, 2) := by decide +kernel
theorem d_T_shared_52 : decode b_T_shared 52 = .ok (.aload_n 1, 1) := by decide +kernel
theorem d_T_shared_53 : decode b_T_shared 53 = .ok (.iload_n 3, 1) := by decide +kernel
theorem d_T_shared_54 : decode b_T_shared 54 = .ok (.invokevirtual 89, 3) := by decide +kernel
theorem d_T_shared_57 : decode b_T_shared 57 = .ok (.ifCond .ne 6, 3) := by decide +kernel
theorem d_T_shared_60 : decode b_T_shared 60 = .ok (.iinc 2 1, 3) := by decide +kernel
theorem d_T_shared_63 : decode b_T_shared 63 = .ok (.iinc 4 1, 3) := by decide +kernel
theorem d_T_shared_66 : decode b_T_shared 66 = .ok (.goto (-59), 3) := by decide +kernel
theorem d_T_shared_69 : decode b_T_shared 69 = .ok (.iload_n 2, 1) := by decide +kernel
theorem d_T_shared_70 : decode b_T_shared 70 = .ok (.ireturn, 1) := by decide +kernel
theorem d_T_init_0 : decode b_T_init 0 = .ok (.aload_n 0, 1) := by decide +kernel
theorem d_T_init_1 : decode b_T_init 1 = .ok (.invokespecial 3, 3) := by decide +kernel
theorem d_T_init_4 : decode b_T_init 4 = .ok (.aload_n 0, 1) := by decide +kernel
theorem d_T_init_5 : decode b_T_init 5 = .ok (.aload_n 1, 1) := by decide +kernel
theorem d_T_init_6 : decode b_T_init 6 = .ok (.putfield 9, 3) := by decide +kernel
theorem d_T_init_9 : decode b_T_init 9 = .ok (.aload_n 0, 1) := by decide +kernel
theorem d_T_init_10 : decode b_T_init 10 = .ok (.sipush 3185, 3) := by decide +kernel
theorem d_T_init_13 : decode b_T_init 13 = .ok (.newarray .long, 2) := by decide +kernel
theorem d_T_init_15 : decode b_T_init 15 = .ok (.putfield 15, 3) := by decide +kernel
theorem d_T_init_18 : decode b_T_init 18 = .ok (.aload_n 0, 1) := by decide +kernel
theorem d_T_init_19 : decode b_T_init 19 = .ok (.iconst 0, 1) := by decide +kernel
theorem d_T_init_20 : decode b_T_init 20 = .ok (.putfield 19, 3) := by decide +kernel
theorem d_T_init_23 : decode b_T_init 23 = .ok (.aload_n 0, 1) := by decide +kernel
theorem d_T_init_24 : decode b_T_init 24 = .ok (.iconst (-1), 1) := by decide +kernel
theorem d_T_init_25 : decode b_T_init 25 = .ok (.putfield 23, 3) := by decide +kernel
theorem d_T_init_28 : decode b_T_init 28 = .ok (.aload_n 0, 1) := by decide +kernel
theorem d_T_init_29 : decode b_T_init 29 = .ok (.iconst 0, 1) := by decide +kernel
theorem d_T_init_30 : decode b_T_init 30 = .ok (.putfield 26, 3) := by decide +kernel
theorem d_T_init_33 : decode b_T_init 33 = .ok (.return_, 1) := by decide +kernel
