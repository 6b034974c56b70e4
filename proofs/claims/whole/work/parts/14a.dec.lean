theorem d_R_run_0 : decode b_R_run 0 = .ok (.aload_n 0, 1) := by decide +kernel
theorem d_R_run_1 : decode b_R_run 1 = .ok (.iconst 0, 1) := by decide +kernel
theorem d_R_run_2 : decode b_R_run 2 = .ok (.putfield 7, 3) := by decide +kernel
theorem d_R_run_5 : decode b_R_run 5 = .ok (.iconst 0, 1) := by decide +kernel
theorem d_R_run_6 : decode b_R_run 6 = .ok (.istore_n 1, 1) := by decide +kernel
theorem d_R_run_7 : decode b_R_run 7 = .ok (.iload_n 1, 1) := by decide +kernel
theorem d_R_run_8 : decode b_R_run 8 = .ok (.ldc 58, 2) := by decide +kernel
theorem d_R_run_10 : decode b_R_run 10 = .ok (.if_icmp .ge 66, 3) := by decide +kernel
theorem d_R_run_13 : decode b_R_run 13 = .ok (.aload_n 0, 1) := by decide +kernel
theorem d_R_run_14 : decode b_R_run 14 = .ok (.invokevirtual 59, 3) := by decide +kernel
theorem d_R_run_17 : decode b_R_run 17 = .ok (.aload_n 0, 1) := by decide +kernel
theorem d_R_run_18 : decode b_R_run 18 = .ok (.invokevirtual 62, 3) := by decide +kernel
theorem d_R_run_21 : decode b_R_run 21 = .ok (.ifCond .eq 6, 3) := by decide +kernel
theorem d_R_run_24 : decode b_R_run 24 = .ok (.goto 46, 3) := by decide +kernel
theorem d_R_run_27 : decode b_R_run 27 = .ok (.aload_n 0, 1) := by decide +kernel
theorem d_R_run_28 : decode b_R_run 28 = .ok (.invokevirtual 66, 3) := by decide +kernel
theorem d_R_run_31 : decode b_R_run 31 = .ok (.aload_n 0, 1) := by decide +kernel
theorem d_R_run_32 : decode b_R_run 32 = .ok (.invokevirtual 69, 3) := by decide +kernel
theorem d_R_run_35 : decode b_R_run 35 = .ok (.ifCond .ne 25, 3) := by decide +kernel
theorem d_R_run_38 : decode b_R_run 38 = .ok (.aload_n 0, 1) := by decide +kernel
theorem d_R_run_39 : decode b_R_run 39 = .ok (.invokevirtual 72, 3) := by decide +kernel
theorem d_R_run_42 : decode b_R_run 42 = .ok (.ifCond .ne 18, 3) := by decide +kernel
theorem d_R_run_45 : decode b_R_run 45 = .ok (.aload_n 0, 1) := by decide +kernel
theorem d_R_run_46 : decode b_R_run 46 = .ok (.invokevirtual 75, 3) := by decide +kernel
theorem d_R_run_49 : decode b_R_run 49 = .ok (.ifCond .ne 11, 3) := by decide +kernel
theorem d_R_run_52 : decode b_R_run 52 = .ok (.aload_n 0, 1) := by decide +kernel
theorem d_R_run_53 : decode b_R_run 53 = .ok (.invokevirtual 78, 3) := by decide +kernel
theorem d_R_run_56 : decode b_R_run 56 = .ok (.ifCond .ne 4, 3) := by decide +kernel
theorem d_R_run_59 : decode b_R_run 59 = .ok (.return_, 1) := by decide +kernel
theorem d_R_run_60 : decode b_R_run 60 = .ok (.aload_n 0, 1) := by decide +kernel
theorem d_R_run_61 : decode b_R_run 61 = .ok (.dup, 1) := by decide +kernel
theorem d_R_run_62 : decode b_R_run 62 = .ok (.getfield 7, 3) := by decide +kernel
theorem d_R_run_65 : decode b_R_run 65 = .ok (.iconst 1, 1) := by decide +kernel
theorem d_R_run_66 : decode b_R_run 66 = .ok (.iadd, 1) := by decide +kernel
theorem d_R_run_67 : decode b_R_run 67 = .ok (.putfield 7, 3) := by decide +kernel
theorem d_R_run_70 : decode b_R_run 70 = .ok (.iinc 1 1, 3) := by decide +kernel
theorem d_R_run_73 : decode b_R_run 73 = .ok (.goto (-66), 3) := by decide +kernel
theorem d_R_run_76 : decode b_R_run 76 = .ok (.return_, 1) := by decide +kernel
theorem d_R_reduce_0 : decode b_R_reduce 0 = .ok (.aload_n 0, 1) := by decide +kernel
theorem d_R_reduce_1 : decode b_R_reduce 1 = .ok (.aload_n 1, 1) := by decide +kernel
theorem d_R_reduce_2 : decode b_R_reduce 2 = .ok (.getfield 13, 3) := by decide +kernel
theorem d_R_reduce_5 : decode b_R_reduce 5 = .ok (.aload_n 1, 1) := by decide +kernel
theorem d_R_reduce_6 : decode b_R_reduce 6 = .ok (.getfield 19, 3) := by decide +kernel
theorem d_R_reduce_9 : decode b_R_reduce 9 = .ok (.aload_n 1, 1) := by decide +kernel
theorem d_R_reduce_10 : decode b_R_reduce 10 = .ok (.getfield 22, 3) := by decide +kernel
theorem d_R_reduce_13 : decode b_R_reduce 13 = .ok (.invokevirtual 25, 3) := by decide +kernel
theorem d_R_reduce_16 : decode b_R_reduce 16 = .ok (.aload_n 0, 1) := by decide +kernel
theorem d_R_reduce_17 : decode b_R_reduce 17 = .ok (.aload_n 1, 1) := by decide +kernel
theorem d_R_reduce_18 : decode b_R_reduce 18 = .ok (.getfield 29, 3) := by decide +kernel
theorem d_R_reduce_21 : decode b_R_reduce 21 = .ok (.aload_n 1, 1) := by decide +kernel
theorem d_R_reduce_22 : decode b_R_reduce 22 = .ok (.getfield 32, 3) := by decide +kernel
theorem d_R_reduce_25 : decode b_R_reduce 25 = .ok (.aload_n 1, 1) := by decide +kernel
theorem d_R_reduce_26 : decode b_R_reduce 26 = .ok (.getfield 35, 3) := by decide +kernel
theorem d_R_reduce_29 : decode b_R_reduce 29 = .ok (.invokevirtual 38, 3) := by decide +kernel
theorem d_R_reduce_32 : decode b_R_reduce 32 = .ok (.aload_n 0, 1) := by decide +kernel
theorem d_R_reduce_33 : decode b_R_reduce 33 = .ok (.invokevirtual 41, 3) := by decide +kernel
theorem d_R_reduce_36 : decode b_R_reduce 36 = .ok (.return_, 1) := by decide +kernel
theorem d_R_result_0 : decode b_R_result 0 = .ok (.new 14, 3) := by decide +kernel
theorem d_R_result_3 : decode b_R_result 3 = .ok (.dup, 1) := by decide +kernel
theorem d_R_result_4 : decode b_R_result 4 = .ok (.aload_n 0, 1) := by decide +kernel
theorem d_R_result_5 : decode b_R_result 5 = .ok (.getfield 44, 3) := by decide +kernel
theorem d_R_result_8 : decode b_R_result 8 = .ok (.aload_n 0, 1) := by decide +kernel
theorem d_R_result_9 : decode b_R_result 9 = .ok (.getfield 45, 3) := by decide +kernel
theorem d_R_result_12 : decode b_R_result 12 = .ok (.aload_n 0, 1) := by decide +kernel
theorem d_R_result_13 : decode b_R_result 13 = .ok (.getfield 46, 3) := by decide +kernel
theorem d_R_result_16 : decode b_R_result 16 = .ok (.aload_n 0, 1) := by decide +kernel
theorem d_R_result_17 : decode b_R_result 17 = .ok (.getfield 49, 3) := by decide +kernel
theorem d_R_result_20 : decode b_R_result 20 = .ok (.ldc2_w 47, 3) := by decide +kernel
theorem d_R_result_23 : decode b_R_result 23 = .ok (.ldiv, 1) := by decide +kernel
theorem d_R_result_24 : decode b_R_result 24 = .ok (.aload_n 0, 1) := by decide +kernel
theorem d_R_result_25 : decode b_R_result 25 = .ok (.getfield 52, 3) := by decide +kernel
theorem d_R_result_28 : decode b_R_result 28 = .ok (.ldc2_w 47, 3) := by decide +kernel
theorem d_R_result_31 : decode b_R_result 31 = .ok (.ldiv, 1) := by decide +kernel
theorem d_R_result_32 : decode b_R_result 32 = .ok (.aload_n 0, 1) := by decide +kernel
theorem d_R_result_33 : decode b_R_result 33 = .ok (.getfield 55, 3) := by decide +kernel
theorem d_R_result_36 : decode b_R_result 36 = .ok (.ldc2_w 47, 3) := by decide +kernel
theorem d_R_result_39 : decode b_R_result 39 = .ok (.ldiv, 1) := by decide +kernel
theorem d_R_result_40 : decode b_R_result 40 = .ok (.invokespecial 81, 3) := by decide +kernel
theorem d_R_result_43 : decode b_R_result 43 = .ok (.areturn, 1) := by decide +kernel
