theorem d_B_find_0 : decode b_B_find 0 = .ok (.iload_n 1, 1) := by decide +kernel
theorem d_B_find_1 : decode b_B_find 1 = .ok (.ifCond .lt 20, 3) := by decide +kernel
theorem d_B_find_4 : decode b_B_find 4 = .ok (.iload_n 1, 1) := by decide +kernel
theorem d_B_find_5 : decode b_B_find 5 = .ok (.aload_n 0, 1) := by decide +kernel
theorem d_B_find_6 : decode b_B_find 6 = .ok (.getfield 34, 3) := by decide +kernel
theorem d_B_find_9 : decode b_B_find 9 = .ok (.if_icmp .ge 12, 3) := by decide +kernel
theorem d_B_find_12 : decode b_B_find 12 = .ok (.iload_n 1, 1) := by decide +kernel
theorem d_B_find_13 : decode b_B_find 13 = .ok (.aload_n 0, 1) := by decide +kernel
theorem d_B_find_14 : decode b_B_find 14 = .ok (.getfield 11, 3) := by decide +kernel
theorem d_B_find_17 : decode b_B_find 17 = .ok (.arraylength, 1) := by decide +kernel
theorem d_B_find_18 : decode b_B_find 18 = .ok (.if_icmp .lt 5, 3) := by decide +kernel
theorem d_B_find_21 : decode b_B_find 21 = .ok (.aconst_null, 1) := by decide +kernel
theorem d_B_find_22 : decode b_B_find 22 = .ok (.areturn, 1) := by decide +kernel
theorem d_B_find_23 : decode b_B_find 23 = .ok (.aload_n 0, 1) := by decide +kernel
theorem d_B_find_24 : decode b_B_find 24 = .ok (.getfield 11, 3) := by decide +kernel
theorem d_B_find_27 : decode b_B_find 27 = .ok (.iload_n 1, 1) := by decide +kernel
theorem d_B_find_28 : decode b_B_find 28 = .ok (.aaload, 1) := by decide +kernel
theorem d_B_find_29 : decode b_B_find 29 = .ok (.areturn, 1) := by decide +kernel
