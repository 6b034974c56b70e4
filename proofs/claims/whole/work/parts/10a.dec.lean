theorem d_isSquare_0 : decode b_isSquare 0 = .ok (.iload_n 0, 1) := by decide +kernel
theorem d_isSquare_1 : decode b_isSquare 1 = .ok (.iconst 1, 1) := by decide +kernel
theorem d_isSquare_2 : decode b_isSquare 2 = .ok (.if_icmp .lt 14, 3) := by decide +kernel
theorem d_isSquare_5 : decode b_isSquare 5 = .ok (.iload_n 0, 1) := by decide +kernel
theorem d_isSquare_6 : decode b_isSquare 6 = .ok (.sipush 10000, 3) := by decide +kernel
theorem d_isSquare_9 : decode b_isSquare 9 = .ok (.if_icmp .gt 7, 3) := by decide +kernel
theorem d_isSquare_12 : decode b_isSquare 12 = .ok (.iconst 1, 1) := by decide +kernel
theorem d_isSquare_13 : decode b_isSquare 13 = .ok (.goto 4, 3) := by decide +kernel
theorem d_isSquare_16 : decode b_isSquare 16 = .ok (.iconst 0, 1) := by decide +kernel
theorem d_isSquare_17 : decode b_isSquare 17 = .ok (.ireturn, 1) := by decide +kernel
theorem d_isMixed_0 : decode b_isMixed 0 = .ok (.iload_n 0, 1) := by decide +kernel
theorem d_isMixed_1 : decode b_isMixed 1 = .ok (.sipush (-10000), 3) := by decide +kernel
theorem d_isMixed_4 : decode b_isMixed 4 = .ok (.if_icmp .lt 14, 3) := by decide +kernel
theorem d_isMixed_7 : decode b_isMixed 7 = .ok (.iload_n 0, 1) := by decide +kernel
theorem d_isMixed_8 : decode b_isMixed 8 = .ok (.sipush 10000, 3) := by decide +kernel
theorem d_isMixed_11 : decode b_isMixed 11 = .ok (.if_icmp .gt 7, 3) := by decide +kernel
theorem d_isMixed_14 : decode b_isMixed 14 = .ok (.iconst 1, 1) := by decide +kernel
theorem d_isMixed_15 : decode b_isMixed 15 = .ok (.goto 4, 3) := by decide +kernel
theorem d_isMixed_18 : decode b_isMixed 18 = .ok (.iconst 0, 1) := by decide +kernel
theorem d_isMixed_19 : decode b_isMixed 19 = .ok (.ireturn, 1) := by decide +kernel
theorem d_isMultiplier_0 : decode b_isMultiplier 0 = .ok (.iload_n 0, 1) := by decide +kernel
theorem d_isMultiplier_1 : decode b_isMultiplier 1 = .ok (.iconst 1, 1) := by decide +kernel
theorem d_isMultiplier_2 : decode b_isMultiplier 2 = .ok (.if_icmp .lt 13, 3) := by decide +kernel
theorem d_isMultiplier_5 : decode b_isMultiplier 5 = .ok (.iload_n 0, 1) := by decide +kernel
theorem d_isMultiplier_6 : decode b_isMultiplier 6 = .ok (.bipush 12, 2) := by decide +kernel
theorem d_isMultiplier_8 : decode b_isMultiplier 8 = .ok (.if_icmp .gt 7, 3) := by decide +kernel
theorem d_isMultiplier_11 : decode b_isMultiplier 11 = .ok (.iconst 1, 1) := by decide +kernel
theorem d_isMultiplier_12 : decode b_isMultiplier 12 = .ok (.goto 4, 3) := by decide +kernel
theorem d_isMultiplier_15 : decode b_isMultiplier 15 = .ok (.iconst 0, 1) := by decide +kernel
theorem d_isMultiplier_16 : decode b_isMultiplier 16 = .ok (.ireturn, 1) := by decide +kernel
theorem d_isRouteNumber_0 : decode b_isRouteNumber 0 = .ok (.iload_n 0, 1) := by decide +kernel
theorem d_isRouteNumber_1 : decode b_isRouteNumber 1 = .ok (.sipush (-1000), 3) := by decide +kernel
theorem d_isRouteNumber_4 : decode b_isRouteNumber 4 = .ok (.if_icmp .lt 14, 3) := by decide +kernel
theorem d_isRouteNumber_7 : decode b_isRouteNumber 7 = .ok (.iload_n 0, 1) := by decide +kernel
theorem d_isRouteNumber_8 : decode b_isRouteNumber 8 = .ok (.sipush 1000, 3) := by decide +kernel
theorem d_isRouteNumber_11 : decode b_isRouteNumber 11 = .ok (.if_icmp .gt 7, 3) := by decide +kernel
theorem d_isRouteNumber_14 : decode b_isRouteNumber 14 = .ok (.iconst 1, 1) := by decide +kernel
theorem d_isRouteNumber_15 : decode b_isRouteNumber 15 = .ok (.goto 4, 3) := by decide +kernel
theorem d_isRouteNumber_18 : decode b_isRouteNumber 18 = .ok (.iconst 0, 1) := by decide +kernel
theorem d_isRouteNumber_19 : decode b_isRouteNumber 19 = .ok (.ireturn, 1) := by decide +kernel
theorem d_columnAtEnd_0 : decode b_columnAtEnd 0 = .ok (.iload_n 0, 1) := by decide +kernel
theorem d_columnAtEnd_1 : decode b_columnAtEnd 1 = .ok (.sipush 729, 3) := by decide +kernel
theorem d_columnAtEnd_4 : decode b_columnAtEnd 4 = .ok (.idiv, 1) := by decide +kernel
theorem d_columnAtEnd_5 : decode b_columnAtEnd 5 = .ok (.iconst 3, 1) := by decide +kernel
theorem d_columnAtEnd_6 : decode b_columnAtEnd 6 = .ok (.irem, 1) := by decide +kernel
theorem d_columnAtEnd_7 : decode b_columnAtEnd 7 = .ok (.bipush 9, 2) := by decide +kernel
theorem d_columnAtEnd_9 : decode b_columnAtEnd 9 = .ok (.imul, 1) := by decide +kernel
theorem d_columnAtEnd_10 : decode b_columnAtEnd 10 = .ok (.iload_n 0, 1) := by decide +kernel
theorem d_columnAtEnd_11 : decode b_columnAtEnd 11 = .ok (.bipush 27, 2) := by decide +kernel
theorem d_columnAtEnd_13 : decode b_columnAtEnd 13 = .ok (.idiv, 1) := by decide +kernel
theorem d_columnAtEnd_14 : decode b_columnAtEnd 14 = .ok (.iconst 3, 1) := by decide +kernel
theorem d_columnAtEnd_15 : decode b_columnAtEnd 15 = .ok (.irem, 1) := by decide +kernel
theorem d_columnAtEnd_16 : decode b_columnAtEnd 16 = .ok (.iconst 3, 1) := by decide +kernel
theorem d_columnAtEnd_17 : decode b_columnAtEnd 17 = .ok (.imul, 1) := by decide +kernel
theorem d_columnAtEnd_18 : decode b_columnAtEnd 18 = .ok (.iadd, 1) := by decide +kernel
theorem d_columnAtEnd_19 : decode b_columnAtEnd 19 = .ok (.iload_n 0, 1) := by decide +kernel
theorem d_columnAtEnd_20 : decode b_columnAtEnd 20 = .ok (.iconst 3, 1) := by decide +kernel
theorem d_columnAtEnd_21 : decode b_columnAtEnd 21 = .ok (.irem, 1) := by decide +kernel
theorem d_columnAtEnd_22 : decode b_columnAtEnd 22 = .ok (.iadd, 1) := by decide +kernel
theorem d_columnAtEnd_23 : decode b_columnAtEnd 23 = .ok (.ireturn, 1) := by decide +kernel
theorem d_Long_cmp_0 : decode b_Long_cmp 0 = .ok (.lload_n 0, 1) := by decide +kernel
theorem d_Long_cmp_1 : decode b_Long_cmp 1 = .ok (.lload_n 2, 1) := by decide +kernel
theorem d_Long_cmp_2 : decode b_Long_cmp 2 = .ok (.lcmp, 1) := by decide +kernel
theorem d_Long_cmp_3 : decode b_Long_cmp 3 = .ok (.ifCond .ge 7, 3) := by decide +kernel
theorem d_Long_cmp_6 : decode b_Long_cmp 6 = .ok (.iconst (-1), 1) := by decide +kernel
theorem d_Long_cmp_7 : decode b_Long_cmp 7 = .ok (.goto 14, 3) := by decide +kernel
theorem d_Long_cmp_10 : decode b_Long_cmp 10 = .ok (.lload_n 0, 1) := by decide +kernel
theorem d_Long_cmp_11 : decode b_Long_cmp 11 = .ok (.lload_n 2, 1) := by decide +kernel
theorem d_Long_cmp_12 : decode b_Long_cmp 12 = .ok (.lcmp, 1) := by decide +kernel
theorem d_Long_cmp_13 : decode b_Long_cmp 13 = .ok (.ifCond .ne 7, 3) := by decide +kernel
theorem d_Long_cmp_16 : decode b_Long_cmp 16 = .ok (.iconst 0, 1) := by decide +kernel
theorem d_Long_cmp_17 : decode b_Long_cmp 17 = .ok (.goto 4, 3) := by decide +kernel
theorem d_Long_cmp_20 : decode b_Long_cmp 20 = .ok (.iconst 1, 1) := by decide +kernel
theorem d_Long_cmp_21 : decode b_Long_cmp 21 = .ok (.ireturn, 1) := by decide +kernel
