theorem dX2_needIndex_0 : decode cX2_needIndex 0 = .ok (.iload_n 0, 1) := by decide +kernel
theorem dX2_needIndex_1 : decode cX2_needIndex 1 = .ok (.ifCond .lt 8, 3) := by decide +kernel
theorem dX2_needIndex_4 : decode cX2_needIndex 4 = .ok (.iload_n 0, 1) := by decide +kernel
theorem dX2_needIndex_5 : decode cX2_needIndex 5 = .ok (.iload_n 1, 1) := by decide +kernel
theorem dX2_needIndex_6 : decode cX2_needIndex 6 = .ok (.if_icmp .lt 13, 3) := by decide +kernel
theorem dX2_needIndex_9 : decode cX2_needIndex 9 = .ok (.new 143, 3) := by decide +kernel
theorem dX2_needIndex_12 : decode cX2_needIndex 12 = .ok (.dup, 1) := by decide +kernel
theorem dX2_needIndex_13 : decode cX2_needIndex 13 = .ok (.ldc 145, 2) := by decide +kernel
theorem dX2_needIndex_15 : decode cX2_needIndex 15 = .ok (.invokespecial 147, 3) := by decide +kernel
theorem dX2_needIndex_18 : decode cX2_needIndex 18 = .ok (.athrow, 1) := by decide +kernel
theorem dX2_needIndex_19 : decode cX2_needIndex 19 = .ok (.return_, 1) := by decide +kernel
theorem dX2_needRange_0 : decode cX2_needRange 0 = .ok (.iload_n 0, 1) := by decide +kernel
theorem dX2_needRange_1 : decode cX2_needRange 1 = .ok (.iload_n 1, 1) := by decide +kernel
theorem dX2_needRange_2 : decode cX2_needRange 2 = .ok (.if_icmp .lt 8, 3) := by decide +kernel
theorem dX2_needRange_5 : decode cX2_needRange 5 = .ok (.iload_n 0, 1) := by decide +kernel
theorem dX2_needRange_6 : decode cX2_needRange 6 = .ok (.iload_n 2, 1) := by decide +kernel
theorem dX2_needRange_7 : decode cX2_needRange 7 = .ok (.if_icmp .le 13, 3) := by decide +kernel
theorem dX2_needRange_10 : decode cX2_needRange 10 = .ok (.new 148, 3) := by decide +kernel
theorem dX2_needRange_13 : decode cX2_needRange 13 = .ok (.dup, 1) := by decide +kernel
theorem dX2_needRange_14 : decode cX2_needRange 14 = .ok (.ldc 150, 2) := by decide +kernel
theorem dX2_needRange_16 : decode cX2_needRange 16 = .ok (.invokespecial 152, 3) := by decide +kernel
theorem dX2_needRange_19 : decode cX2_needRange 19 = .ok (.athrow, 1) := by decide +kernel
theorem dX2_needRange_20 : decode cX2_needRange 20 = .ok (.return_, 1) := by decide +kernel
theorem dX2_needBest_0 : decode cX2_needBest 0 = .ok (.aload_n 0, 1) := by decide +kernel
theorem dX2_needBest_1 : decode cX2_needBest 1 = .ok (.getfield 93, 3) := by decide +kernel
theorem dX2_needBest_4 : decode cX2_needBest 4 = .ok (.ifCond .ne 13, 3) := by decide +kernel
theorem dX2_needBest_7 : decode cX2_needBest 7 = .ok (.new 51, 3) := by decide +kernel
theorem dX2_needBest_10 : decode cX2_needBest 10 = .ok (.dup, 1) := by decide +kernel
theorem dX2_needBest_11 : decode cX2_needBest 11 = .ok (.ldc 153, 2) := by decide +kernel
theorem dX2_needBest_13 : decode cX2_needBest 13 = .ok (.invokespecial 55, 3) := by decide +kernel
theorem dX2_needBest_16 : decode cX2_needBest 16 = .ok (.athrow, 1) := by decide +kernel
theorem dX2_needBest_17 : decode cX2_needBest 17 = .ok (.return_, 1) := by decide +kernel
theorem dX0_startWithEmptyPlan_0 : decode cX0_startWithEmptyPlan 0 = .ok (.iconst 0, 1) := by decide +kernel
theorem dX0_startWithEmptyPlan_1 : decode cX0_startWithEmptyPlan 1 = .ok (.istore_n 1, 1) := by decide +kernel
theorem dX0_startWithEmptyPlan_2 : decode cX0_startWithEmptyPlan 2 = .ok (.iload_n 1, 1) := by decide +kernel
theorem dX0_startWithEmptyPlan_3 : decode cX0_startWithEmptyPlan 3 = .ok (.bipush 6, 2) := by decide +kernel
theorem dX0_startWithEmptyPlan_5 : decode cX0_startWithEmptyPlan 5 = .ok (.if_icmp .ge 16, 3) := by decide +kernel
theorem dX0_startWithEmptyPlan_8 : decode cX0_startWithEmptyPlan 8 = .ok (.aload_n 0, 1) := by decide +kernel
theorem dX0_startWithEmptyPlan_9 : decode cX0_startWithEmptyPlan 9 = .ok (.getfield 9, 3) := by decide +kernel
theorem dX0_startWithEmptyPlan_12 : decode cX0_startWithEmptyPlan 12 = .ok (.iload_n 1, 1) := by decide +kernel
theorem dX0_startWithEmptyPlan_13 : decode cX0_startWithEmptyPlan 13 = .ok (.iconst 0, 1) := by decide +kernel
theorem dX0_startWithEmptyPlan_14 : decode cX0_startWithEmptyPlan 14 = .ok (.iastore, 1) := by decide +kernel
theorem dX0_startWithEmptyPlan_15 : decode cX0_startWithEmptyPlan 15 = .ok (.iinc 1 1, 3) := by decide +kernel
theorem dX0_startWithEmptyPlan_18 : decode cX0_startWithEmptyPlan 18 = .ok (.goto (-16), 3) := by decide +kernel
theorem dX0_startWithEmptyPlan_21 : decode cX0_startWithEmptyPlan 21 = .ok (.iconst 0, 1) := by decide +kernel
theorem dX0_startWithEmptyPlan_22 : decode cX0_startWithEmptyPlan 22 = .ok (.istore_n 1, 1) := by decide +kernel
theorem dX0_startWithEmptyPlan_23 : decode cX0_startWithEmptyPlan 23 = .ok (.iload_n 1, 1) := by decide +kernel
theorem dX0_startWithEmptyPlan_24 : decode cX0_startWithEmptyPlan 24 = .ok (.iconst 4, 1) := by decide +kernel
theorem dX0_startWithEmptyPlan_25 : decode cX0_startWithEmptyPlan 25 = .ok (.if_icmp .ge 24, 3) := by decide +kernel
theorem dX0_startWithEmptyPlan_28 : decode cX0_startWithEmptyPlan 28 = .ok (.aload_n 0, 1) := by decide +kernel
theorem dX0_startWithEmptyPlan_29 : decode cX0_startWithEmptyPlan 29 = .ok (.getfield 15, 3) := by decide +kernel
theorem dX0_startWithEmptyPlan_32 : decode cX0_startWithEmptyPlan 32 = .ok (.iload_n 1, 1) := by decide +kernel
theorem dX0_startWithEmptyPlan_33 : decode cX0_startWithEmptyPlan 33 = .ok (.aload_n 0, 1) := by decide +kernel
theorem dX0_startWithEmptyPlan_34 : decode cX0_startWithEmptyPlan 34 = .ok (.getfield 33, 3) := by decide +kernel
theorem dX0_startWithEmptyPlan_37 : decode cX0_startWithEmptyPlan 37 = .ok (.getfield 61, 3) := by decide +kernel
theorem dX0_startWithEmptyPlan_40 : decode cX0_startWithEmptyPlan 40 = .ok (.iload_n 1, 1) := by decide +kernel
theorem dX0_startWithEmptyPlan_41 : decode cX0_startWithEmptyPlan 41 = .ok (.iaload, 1) := by decide +kernel
theorem dX0_startWithEmptyPlan_42 : decode cX0_startWithEmptyPlan 42 = .ok (.iastore, 1) := by decide +kernel
theorem dX0_startWithEmptyPlan_43 : decode cX0_startWithEmptyPlan 43 = .ok (.iinc 1 1, 3) := by decide +kernel
theorem dX0_startWithEmptyPlan_46 : decode cX0_startWithEmptyPlan 46 = .ok (.goto (-23), 3) := by decide +kernel
theorem dX0_startWithEmptyPlan_49 : decode cX0_startWithEmptyPlan 49 = .ok (.iconst 0, 1) := by decide +kernel
theorem dX0_startWithEmptyPlan_50 : decode cX0_startWithEmptyPlan 50 = .ok (.istore_n 1, 1) := by decide +kernel
theorem dX0_startWithEmptyPlan_51 : decode cX0_startWithEmptyPlan 51 = .ok (.iload_n 1, 1) := by decide +kernel
theorem dX0_startWithEmptyPlan_52 : decode cX0_startWithEmptyPlan 52 = .ok (.iconst 4, 1) := by decide +kernel
theorem dX0_startWithEmptyPlan_53 : decode cX0_startWithEmptyPlan 53 = .ok (.if_icmp .ge 24, 3) := by decide +kernel
theorem dX0_startWithEmptyPlan_56 : decode cX0_startWithEmptyPlan 56 = .ok (.aload_n 0, 1) := by decide +kernel
theorem dX0_startWithEmptyPlan_57 : decode cX0_startWithEmptyPlan 57 = .ok (.getfield 18, 3) := by decide +kernel
theorem dX0_startWithEmptyPlan_60 : decode cX0_startWithEmptyPlan 60 = .ok (.iload_n 1, 1) := by decide +kernel
theorem dX0_startWithEmptyPlan_61 : decode cX0_startWithEmptyPlan 61 = .ok (.aload_n 0, 1) := by decide +kernel
theorem dX0_startWithEmptyPlan_62 : decode cX0_startWithEmptyPlan 62 = .ok (.getfield 33, 3) := by decide +kernel
theorem dX0_startWithEmptyPlan_65 : decode cX0_startWithEmptyPlan 65 = .ok (.getfield 66, 3) := by decide +kernel
theorem dX0_startWithEmptyPlan_68 : decode cX0_startWithEmptyPlan 68 = .ok (.iload_n 1, 1) := by decide +kernel
theorem dX0_startWithEmptyPlan_69 : decode cX0_startWithEmptyPlan 69 = .ok (.iaload, 1) := by decide +kernel
theorem dX0_startWithEmptyPlan_70 : decode cX0_startWithEmptyPlan 70 = .ok (.iastore, 1) := by decide +kernel
theorem dX0_startWithEmptyPlan_71 : decode cX0_startWithEmptyPlan 71 = .ok (.iinc 1 1, 3) := by decide +kernel
theorem dX0_startWithEmptyPlan_74 : decode cX0_startWithEmptyPlan 74 = .ok (.goto (-23), 3) := by decide +kernel
theorem dX0_startWithEmptyPlan_77 : decode cX0_startWithEmptyPlan 77 = .ok (.aload_n 0, 1) := by decide +kernel
theorem dX0_startWithEmptyPlan_78 : decode cX0_startWithEmptyPlan 78 = .ok (.aload_n 0, 1) := by decide +kernel
theorem dX0_startWithEmptyPlan_79 : decode cX0_startWithEmptyPlan 79 = .ok (.getfield 33, 3) := by decide +kernel
theorem dX0_startWithEmptyPlan_82 : decode cX0_startWithEmptyPlan 82 = .ok (.getfield 69, 3) := by decide +kernel
theorem dX0_startWithEmptyPlan_85 : decode cX0_startWithEmptyPlan 85 = .ok (.putfield 72, 3) := by decide +kernel
theorem dX0_startWithEmptyPlan_88 : decode cX0_startWithEmptyPlan 88 = .ok (.aload_n 0, 1) := by decide +kernel
theorem dX0_startWithEmptyPlan_89 : decode cX0_startWithEmptyPlan 89 = .ok (.iconst 0, 1) := by decide +kernel
theorem dX0_startWithEmptyPlan_90 : decode cX0_startWithEmptyPlan 90 = .ok (.putfield 75, 3) := by decide +kernel
theorem dX0_startWithEmptyPlan_93 : decode cX0_startWithEmptyPlan 93 = .ok (.return_, 1) := by decide +kernel
theorem dX0_takeOrders_0 : decode cX0_takeOrders 0 = .ok (.iconst 0, 1) := by decide +kernel
theorem dX0_takeOrders_1 : decode cX0_takeOrders 1 = .ok (.istore_n 2, 1) := by decide +kernel
theorem dX0_takeOrders_2 : decode cX0_takeOrders 2 = .ok (.iload_n 2, 1) := by decide +kernel
theorem dX0_takeOrders_3 : decode cX0_takeOrders 3 = .ok (.iconst 4, 1) := by decide +kernel
theorem dX0_takeOrders_4 : decode cX0_takeOrders 4 = .ok (.if_icmp .ge 89, 3) := by decide +kernel
theorem dX0_takeOrders_7 : decode cX0_takeOrders 7 = .ok (.iload_n 2, 1) := by decide +kernel
theorem dX0_takeOrders_8 : decode cX0_takeOrders 8 = .ok (.iload_n 1, 1) := by decide +kernel
theorem dX0_takeOrders_9 : decode cX0_takeOrders 9 = .ok (.if_icmp .eq 7, 3) := by decide +kernel
theorem dX0_takeOrders_12 : decode cX0_takeOrders 12 = .ok (.iconst 1, 1) := by decide +kernel
theorem dX0_takeOrders_13 : decode cX0_takeOrders 13 = .ok (.goto 4, 3) := by decide +kernel
theorem dX0_takeOrders_16 : decode cX0_takeOrders 16 = .ok (.iconst 0, 1) := by decide +kernel
theorem dX0_takeOrders_17 : decode cX0_takeOrders 17 = .ok (.istore_n 3, 1) := by decide +kernel
theorem dX0_takeOrders_18 : decode cX0_takeOrders 18 = .ok (.aload_n 0, 1) := by decide +kernel
theorem dX0_takeOrders_19 : decode cX0_takeOrders 19 = .ok (.getfield 21, 3) := by decide +kernel
theorem dX0_takeOrders_22 : decode cX0_takeOrders 22 = .ok (.iload_n 2, 1) := by decide +kernel
theorem dX0_takeOrders_23 : decode cX0_takeOrders 23 = .ok (.iload_n 3, 1) := by decide +kernel
theorem dX0_takeOrders_24 : decode cX0_takeOrders 24 = .ok (.ifCond .eq 15, 3) := by decide +kernel
theorem dX0_takeOrders_27 : decode cX0_takeOrders 27 = .ok (.aload_n 0, 1) := by decide +kernel
theorem dX0_takeOrders_28 : decode cX0_takeOrders 28 = .ok (.getfield 33, 3) := by decide +kernel
theorem dX0_takeOrders_31 : decode cX0_takeOrders 31 = .ok (.getfield 78, 3) := by decide +kernel
theorem dX0_takeOrders_34 : decode cX0_takeOrders 34 = .ok (.iload_n 2, 1) := by decide +kernel
theorem dX0_takeOrders_35 : decode cX0_takeOrders 35 = .ok (.iaload, 1) := by decide +kernel
theorem dX0_takeOrders_36 : decode cX0_takeOrders 36 = .ok (.goto 4, 3) := by decide +kernel
theorem dX0_takeOrders_39 : decode cX0_takeOrders 39 = .ok (.iconst 0, 1) := by decide +kernel
theorem dX0_takeOrders_40 : decode cX0_takeOrders 40 = .ok (.iastore, 1) := by decide +kernel
theorem dX0_takeOrders_41 : decode cX0_takeOrders 41 = .ok (.aload_n 0, 1) := by decide +kernel
theorem dX0_takeOrders_42 : decode cX0_takeOrders 42 = .ok (.getfield 24, 3) := by decide +kernel
theorem dX0_takeOrders_45 : decode cX0_takeOrders 45 = .ok (.iload_n 2, 1) := by decide +kernel
theorem dX0_takeOrders_46 : decode cX0_takeOrders 46 = .ok (.iload_n 3, 1) := by decide +kernel
theorem dX0_takeOrders_47 : decode cX0_takeOrders 47 = .ok (.ifCond .eq 15, 3) := by decide +kernel
theorem dX0_takeOrders_50 : decode cX0_takeOrders 50 = .ok (.aload_n 0, 1) := by decide +kernel
theorem dX0_takeOrders_51 : decode cX0_takeOrders 51 = .ok (.getfield 33, 3) := by decide +kernel
theorem dX0_takeOrders_54 : decode cX0_takeOrders 54 = .ok (.getfield 79, 3) := by decide +kernel
theorem dX0_takeOrders_57 : decode cX0_takeOrders 57 = .ok (.iload_n 2, 1) := by decide +kernel
theorem dX0_takeOrders_58 : decode cX0_takeOrders 58 = .ok (.iaload, 1) := by decide +kernel
theorem dX0_takeOrders_59 : decode cX0_takeOrders 59 = .ok (.goto 4, 3) := by decide +kernel
theorem dX0_takeOrders_62 : decode cX0_takeOrders 62 = .ok (.iconst 0, 1) := by decide +kernel
theorem dX0_takeOrders_63 : decode cX0_takeOrders 63 = .ok (.iastore, 1) := by decide +kernel
theorem dX0_takeOrders_64 : decode cX0_takeOrders 64 = .ok (.aload_n 0, 1) := by decide +kernel
theorem dX0_takeOrders_65 : decode cX0_takeOrders 65 = .ok (.getfield 27, 3) := by decide +kernel
theorem dX0_takeOrders_68 : decode cX0_takeOrders 68 = .ok (.iload_n 2, 1) := by decide +kernel
theorem dX0_takeOrders_69 : decode cX0_takeOrders 69 = .ok (.iload_n 3, 1) := by decide +kernel
theorem dX0_takeOrders_70 : decode cX0_takeOrders 70 = .ok (.ifCond .eq 15, 3) := by decide +kernel
theorem dX0_takeOrders_73 : decode cX0_takeOrders 73 = .ok (.aload_n 0, 1) := by decide +kernel
theorem dX0_takeOrders_74 : decode cX0_takeOrders 74 = .ok (.getfield 33, 3) := by decide +kernel
theorem dX0_takeOrders_77 : decode cX0_takeOrders 77 = .ok (.getfield 80, 3) := by decide +kernel
theorem dX0_takeOrders_80 : decode cX0_takeOrders 80 = .ok (.iload_n 2, 1) := by decide +kernel
theorem dX0_takeOrders_81 : decode cX0_takeOrders 81 = .ok (.iaload, 1) := by decide +kernel
theorem dX0_takeOrders_82 : decode cX0_takeOrders 82 = .ok (.goto 4, 3) := by decide +kernel
theorem dX0_takeOrders_85 : decode cX0_takeOrders 85 = .ok (.iconst 0, 1) := by decide +kernel
theorem dX0_takeOrders_86 : decode cX0_takeOrders 86 = .ok (.iastore, 1) := by decide +kernel
theorem dX0_takeOrders_87 : decode cX0_takeOrders 87 = .ok (.iinc 2 1, 3) := by decide +kernel
theorem dX0_takeOrders_90 : decode cX0_takeOrders 90 = .ok (.goto (-88), 3) := by decide +kernel
theorem dX0_takeOrders_93 : decode cX0_takeOrders 93 = .ok (.return_, 1) := by decide +kernel
theorem dX0_minutesOfNextLog_0 : decode cX0_minutesOfNextLog 0 = .ok (.aload_n 0, 1) := by decide +kernel
theorem dX0_minutesOfNextLog_1 : decode cX0_minutesOfNextLog 1 = .ok (.getfield 33, 3) := by decide +kernel
theorem dX0_minutesOfNextLog_4 : decode cX0_minutesOfNextLog 4 = .ok (.getfield 107, 3) := by decide +kernel
theorem dX0_minutesOfNextLog_7 : decode cX0_minutesOfNextLog 7 = .ok (.iload_n 1, 1) := by decide +kernel
theorem dX0_minutesOfNextLog_8 : decode cX0_minutesOfNextLog 8 = .ok (.iaload, 1) := by decide +kernel
theorem dX0_minutesOfNextLog_9 : decode cX0_minutesOfNextLog 9 = .ok (.istore_n 2, 1) := by decide +kernel
theorem dX0_minutesOfNextLog_10 : decode cX0_minutesOfNextLog 10 = .ok (.aload_n 0, 1) := by decide +kernel
theorem dX0_minutesOfNextLog_11 : decode cX0_minutesOfNextLog 11 = .ok (.getfield 9, 3) := by decide +kernel
theorem dX0_minutesOfNextLog_14 : decode cX0_minutesOfNextLog 14 = .ok (.iload_n 1, 1) := by decide +kernel
theorem dX0_minutesOfNextLog_15 : decode cX0_minutesOfNextLog 15 = .ok (.iaload, 1) := by decide +kernel
theorem dX0_minutesOfNextLog_16 : decode cX0_minutesOfNextLog 16 = .ok (.ifCond .ne 15, 3) := by decide +kernel
theorem dX0_minutesOfNextLog_19 : decode cX0_minutesOfNextLog 19 = .ok (.iload_n 2, 1) := by decide +kernel
theorem dX0_minutesOfNextLog_20 : decode cX0_minutesOfNextLog 20 = .ok (.aload_n 0, 1) := by decide +kernel
theorem dX0_minutesOfNextLog_21 : decode cX0_minutesOfNextLog 21 = .ok (.getfield 33, 3) := by decide +kernel
theorem dX0_minutesOfNextLog_24 : decode cX0_minutesOfNextLog 24 = .ok (.getfield 110, 3) := by decide +kernel
theorem dX0_minutesOfNextLog_27 : decode cX0_minutesOfNextLog 27 = .ok (.iadd, 1) := by decide +kernel
theorem dX0_minutesOfNextLog_28 : decode cX0_minutesOfNextLog 28 = .ok (.goto 4, 3) := by decide +kernel
theorem dX0_minutesOfNextLog_31 : decode cX0_minutesOfNextLog 31 = .ok (.iload_n 2, 1) := by decide +kernel
theorem dX0_minutesOfNextLog_32 : decode cX0_minutesOfNextLog 32 = .ok (.ireturn, 1) := by decide +kernel
theorem dX0_oneLogMoreFits_0 : decode cX0_oneLogMoreFits 0 = .ok (.aload_n 0, 1) := by decide +kernel
theorem dX0_oneLogMoreFits_1 : decode cX0_oneLogMoreFits 1 = .ok (.getfield 15, 3) := by decide +kernel
theorem dX0_oneLogMoreFits_4 : decode cX0_oneLogMoreFits 4 = .ok (.aload_n 0, 1) := by decide +kernel
theorem dX0_oneLogMoreFits_5 : decode cX0_oneLogMoreFits 5 = .ok (.getfield 33, 3) := by decide +kernel
theorem dX0_oneLogMoreFits_8 : decode cX0_oneLogMoreFits 8 = .ok (.getfield 100, 3) := by decide +kernel
theorem dX0_oneLogMoreFits_11 : decode cX0_oneLogMoreFits 11 = .ok (.iload_n 1, 1) := by decide +kernel
theorem dX0_oneLogMoreFits_12 : decode cX0_oneLogMoreFits 12 = .ok (.iaload, 1) := by decide +kernel
theorem dX0_oneLogMoreFits_13 : decode cX0_oneLogMoreFits 13 = .ok (.iaload, 1) := by decide +kernel
theorem dX0_oneLogMoreFits_14 : decode cX0_oneLogMoreFits 14 = .ok (.ifCond .le 19, 3) := by decide +kernel
theorem dX0_oneLogMoreFits_17 : decode cX0_oneLogMoreFits 17 = .ok (.aload_n 0, 1) := by decide +kernel
theorem dX0_oneLogMoreFits_18 : decode cX0_oneLogMoreFits 18 = .ok (.iload_n 1, 1) := by decide +kernel
theorem dX0_oneLogMoreFits_19 : decode cX0_oneLogMoreFits 19 = .ok (.invokevirtual 103, 3) := by decide +kernel
theorem dX0_oneLogMoreFits_22 : decode cX0_oneLogMoreFits 22 = .ok (.aload_n 0, 1) := by decide +kernel
theorem dX0_oneLogMoreFits_23 : decode cX0_oneLogMoreFits 23 = .ok (.getfield 72, 3) := by decide +kernel
theorem dX0_oneLogMoreFits_26 : decode cX0_oneLogMoreFits 26 = .ok (.if_icmp .gt 7, 3) := by decide +kernel
theorem dX0_oneLogMoreFits_29 : decode cX0_oneLogMoreFits 29 = .ok (.iconst 1, 1) := by decide +kernel
theorem dX0_oneLogMoreFits_30 : decode cX0_oneLogMoreFits 30 = .ok (.goto 4, 3) := by decide +kernel
theorem dX0_oneLogMoreFits_33 : decode cX0_oneLogMoreFits 33 = .ok (.iconst 0, 1) := by decide +kernel
theorem dX0_oneLogMoreFits_34 : decode cX0_oneLogMoreFits 34 = .ok (.ireturn, 1) := by decide +kernel
theorem dX0_addLog_0 : decode cX0_addLog 0 = .ok (.aload_n 0, 1) := by decide +kernel
theorem dX0_addLog_1 : decode cX0_addLog 1 = .ok (.getfield 33, 3) := by decide +kernel
theorem dX0_addLog_4 : decode cX0_addLog 4 = .ok (.getfield 100, 3) := by decide +kernel
theorem dX0_addLog_7 : decode cX0_addLog 7 = .ok (.iload_n 1, 1) := by decide +kernel
theorem dX0_addLog_8 : decode cX0_addLog 8 = .ok (.iaload, 1) := by decide +kernel
theorem dX0_addLog_9 : decode cX0_addLog 9 = .ok (.istore_n 2, 1) := by decide +kernel
theorem dX0_addLog_10 : decode cX0_addLog 10 = .ok (.aload_n 0, 1) := by decide +kernel
theorem dX0_addLog_11 : decode cX0_addLog 11 = .ok (.dup, 1) := by decide +kernel
theorem dX0_addLog_12 : decode cX0_addLog 12 = .ok (.getfield 72, 3) := by decide +kernel
theorem dX0_addLog_15 : decode cX0_addLog 15 = .ok (.aload_n 0, 1) := by decide +kernel
theorem dX0_addLog_16 : decode cX0_addLog 16 = .ok (.iload_n 1, 1) := by decide +kernel
theorem dX0_addLog_17 : decode cX0_addLog 17 = .ok (.invokevirtual 103, 3) := by decide +kernel
theorem dX0_addLog_20 : decode cX0_addLog 20 = .ok (.isub, 1) := by decide +kernel
theorem dX0_addLog_21 : decode cX0_addLog 21 = .ok (.putfield 72, 3) := by decide +kernel
theorem dX0_addLog_24 : decode cX0_addLog 24 = .ok (.aload_n 0, 1) := by decide +kernel
theorem dX0_addLog_25 : decode cX0_addLog 25 = .ok (.getfield 15, 3) := by decide +kernel
theorem dX0_addLog_28 : decode cX0_addLog 28 = .ok (.iload_n 2, 1) := by decide +kernel
theorem dX0_addLog_29 : decode cX0_addLog 29 = .ok (.dup2, 1) := by decide +kernel
theorem dX0_addLog_30 : decode cX0_addLog 30 = .ok (.iaload, 1) := by decide +kernel
theorem dX0_addLog_31 : decode cX0_addLog 31 = .ok (.iconst 1, 1) := by decide +kernel
theorem dX0_addLog_32 : decode cX0_addLog 32 = .ok (.isub, 1) := by decide +kernel
theorem dX0_addLog_33 : decode cX0_addLog 33 = .ok (.iastore, 1) := by decide +kernel
theorem dX0_addLog_34 : decode cX0_addLog 34 = .ok (.aload_n 0, 1) := by decide +kernel
theorem dX0_addLog_35 : decode cX0_addLog 35 = .ok (.dup, 1) := by decide +kernel
theorem dX0_addLog_36 : decode cX0_addLog 36 = .ok (.getfield 75, 3) := by decide +kernel
theorem dX0_addLog_39 : decode cX0_addLog 39 = .ok (.aload_n 0, 1) := by decide +kernel
theorem dX0_addLog_40 : decode cX0_addLog 40 = .ok (.getfield 33, 3) := by decide +kernel
theorem dX0_addLog_43 : decode cX0_addLog 43 = .ok (.getfield 113, 3) := by decide +kernel
theorem dX0_addLog_46 : decode cX0_addLog 46 = .ok (.iload_n 2, 1) := by decide +kernel
theorem dX0_addLog_47 : decode cX0_addLog 47 = .ok (.iaload, 1) := by decide +kernel
theorem dX0_addLog_48 : decode cX0_addLog 48 = .ok (.iadd, 1) := by decide +kernel
theorem dX0_addLog_49 : decode cX0_addLog 49 = .ok (.putfield 75, 3) := by decide +kernel
theorem dX0_addLog_52 : decode cX0_addLog 52 = .ok (.aload_n 0, 1) := by decide +kernel
theorem dX0_addLog_53 : decode cX0_addLog 53 = .ok (.getfield 9, 3) := by decide +kernel
theorem dX0_addLog_56 : decode cX0_addLog 56 = .ok (.iload_n 1, 1) := by decide +kernel
theorem dX0_addLog_57 : decode cX0_addLog 57 = .ok (.dup2, 1) := by decide +kernel
theorem dX0_addLog_58 : decode cX0_addLog 58 = .ok (.iaload, 1) := by decide +kernel
theorem dX0_addLog_59 : decode cX0_addLog 59 = .ok (.iconst 1, 1) := by decide +kernel
theorem dX0_addLog_60 : decode cX0_addLog 60 = .ok (.iadd, 1) := by decide +kernel
theorem dX0_addLog_61 : decode cX0_addLog 61 = .ok (.iastore, 1) := by decide +kernel
theorem dX0_addLog_62 : decode cX0_addLog 62 = .ok (.iconst 0, 1) := by decide +kernel
theorem dX0_addLog_63 : decode cX0_addLog 63 = .ok (.istore_n 3, 1) := by decide +kernel
theorem dX0_addLog_64 : decode cX0_addLog 64 = .ok (.iload_n 3, 1) := by decide +kernel
theorem dX0_addLog_65 : decode cX0_addLog 65 = .ok (.iconst 4, 1) := by decide +kernel
theorem dX0_addLog_66 : decode cX0_addLog 66 = .ok (.if_icmp .ge 29, 3) := by decide +kernel
theorem dX0_addLog_69 : decode cX0_addLog 69 = .ok (.aload_n 0, 1) := by decide +kernel
theorem dX0_addLog_70 : decode cX0_addLog 70 = .ok (.getfield 18, 3) := by decide +kernel
theorem dX0_addLog_73 : decode cX0_addLog 73 = .ok (.iload_n 3, 1) := by decide +kernel
theorem dX0_addLog_74 : decode cX0_addLog 74 = .ok (.dup2, 1) := by decide +kernel
theorem dX0_addLog_75 : decode cX0_addLog 75 = .ok (.iaload, 1) := by decide +kernel
theorem dX0_addLog_76 : decode cX0_addLog 76 = .ok (.aload_n 0, 1) := by decide +kernel
theorem dX0_addLog_77 : decode cX0_addLog 77 = .ok (.getfield 33, 3) := by decide +kernel
theorem dX0_addLog_80 : decode cX0_addLog 80 = .ok (.getfield 116, 3) := by decide +kernel
theorem dX0_addLog_83 : decode cX0_addLog 83 = .ok (.iload_n 1, 1) := by decide +kernel
theorem dX0_addLog_84 : decode cX0_addLog 84 = .ok (.aaload, 1) := by decide +kernel
theorem dX0_addLog_85 : decode cX0_addLog 85 = .ok (.iload_n 3, 1) := by decide +kernel
theorem dX0_addLog_86 : decode cX0_addLog 86 = .ok (.iaload, 1) := by decide +kernel
theorem dX0_addLog_87 : decode cX0_addLog 87 = .ok (.iadd, 1) := by decide +kernel
theorem dX0_addLog_88 : decode cX0_addLog 88 = .ok (.iastore, 1) := by decide +kernel
theorem dX0_addLog_89 : decode cX0_addLog 89 = .ok (.iinc 3 1, 3) := by decide +kernel
theorem dX0_addLog_92 : decode cX0_addLog 92 = .ok (.goto (-28), 3) := by decide +kernel
theorem dX0_addLog_95 : decode cX0_addLog 95 = .ok (.return_, 1) := by decide +kernel
theorem dX0_takeLogsBack_0 : decode cX0_takeLogsBack 0 = .ok (.aload_n 0, 1) := by decide +kernel
theorem dX0_takeLogsBack_1 : decode cX0_takeLogsBack 1 = .ok (.getfield 9, 3) := by decide +kernel
theorem dX0_takeLogsBack_4 : decode cX0_takeLogsBack 4 = .ok (.iload_n 1, 1) := by decide +kernel
theorem dX0_takeLogsBack_5 : decode cX0_takeLogsBack 5 = .ok (.iaload, 1) := by decide +kernel
theorem dX0_takeLogsBack_6 : decode cX0_takeLogsBack 6 = .ok (.istore_n 2, 1) := by decide +kernel
theorem dX0_takeLogsBack_7 : decode cX0_takeLogsBack 7 = .ok (.iload_n 2, 1) := by decide +kernel
theorem dX0_takeLogsBack_8 : decode cX0_takeLogsBack 8 = .ok (.ifCond .ne 4, 3) := by decide +kernel
theorem dX0_takeLogsBack_11 : decode cX0_takeLogsBack 11 = .ok (.return_, 1) := by decide +kernel
theorem dX0_takeLogsBack_12 : decode cX0_takeLogsBack 12 = .ok (.aload_n 0, 1) := by decide +kernel
theorem dX0_takeLogsBack_13 : decode cX0_takeLogsBack 13 = .ok (.getfield 33, 3) := by decide +kernel
theorem dX0_takeLogsBack_16 : decode cX0_takeLogsBack 16 = .ok (.getfield 100, 3) := by decide +kernel
theorem dX0_takeLogsBack_19 : decode cX0_takeLogsBack 19 = .ok (.iload_n 1, 1) := by decide +kernel
theorem dX0_takeLogsBack_20 : decode cX0_takeLogsBack 20 = .ok (.iaload, 1) := by decide +kernel
theorem dX0_takeLogsBack_21 : decode cX0_takeLogsBack 21 = .ok (.istore_n 3, 1) := by decide +kernel
theorem dX0_takeLogsBack_22 : decode cX0_takeLogsBack 22 = .ok (.aload_n 0, 1) := by decide +kernel
theorem dX0_takeLogsBack_23 : decode cX0_takeLogsBack 23 = .ok (.dup, 1) := by decide +kernel
theorem dX0_takeLogsBack_24 : decode cX0_takeLogsBack 24 = .ok (.getfield 72, 3) := by decide +kernel
theorem dX0_takeLogsBack_27 : decode cX0_takeLogsBack 27 = .ok (.iload_n 2, 1) := by decide +kernel
theorem dX0_takeLogsBack_28 : decode cX0_takeLogsBack 28 = .ok (.aload_n 0, 1) := by decide +kernel
theorem dX0_takeLogsBack_29 : decode cX0_takeLogsBack 29 = .ok (.getfield 33, 3) := by decide +kernel
theorem dX0_takeLogsBack_32 : decode cX0_takeLogsBack 32 = .ok (.getfield 107, 3) := by decide +kernel
theorem dX0_takeLogsBack_35 : decode cX0_takeLogsBack 35 = .ok (.iload_n 1, 1) := by decide +kernel
theorem dX0_takeLogsBack_36 : decode cX0_takeLogsBack 36 = .ok (.iaload, 1) := by decide +kernel
theorem dX0_takeLogsBack_37 : decode cX0_takeLogsBack 37 = .ok (.imul, 1) := by decide +kernel
theorem dX0_takeLogsBack_38 : decode cX0_takeLogsBack 38 = .ok (.aload_n 0, 1) := by decide +kernel
theorem dX0_takeLogsBack_39 : decode cX0_takeLogsBack 39 = .ok (.getfield 33, 3) := by decide +kernel
theorem dX0_takeLogsBack_42 : decode cX0_takeLogsBack 42 = .ok (.getfield 110, 3) := by decide +kernel
theorem dX0_takeLogsBack_45 : decode cX0_takeLogsBack 45 = .ok (.iadd, 1) := by decide +kernel
theorem dX0_takeLogsBack_46 : decode cX0_takeLogsBack 46 = .ok (.iadd, 1) := by decide +kernel
theorem dX0_takeLogsBack_47 : decode cX0_takeLogsBack 47 = .ok (.putfield 72, 3) := by decide +kernel
theorem dX0_takeLogsBack_50 : decode cX0_takeLogsBack 50 = .ok (.aload_n 0, 1) := by decide +kernel
theorem dX0_takeLogsBack_51 : decode cX0_takeLogsBack 51 = .ok (.getfield 15, 3) := by decide +kernel
theorem dX0_takeLogsBack_54 : decode cX0_takeLogsBack 54 = .ok (.iload_n 3, 1) := by decide +kernel
theorem dX0_takeLogsBack_55 : decode cX0_takeLogsBack 55 = .ok (.dup2, 1) := by decide +kernel
theorem dX0_takeLogsBack_56 : decode cX0_takeLogsBack 56 = .ok (.iaload, 1) := by decide +kernel
theorem dX0_takeLogsBack_57 : decode cX0_takeLogsBack 57 = .ok (.iload_n 2, 1) := by decide +kernel
theorem dX0_takeLogsBack_58 : decode cX0_takeLogsBack 58 = .ok (.iadd, 1) := by decide +kernel
theorem dX0_takeLogsBack_59 : decode cX0_takeLogsBack 59 = .ok (.iastore, 1) := by decide +kernel
theorem dX0_takeLogsBack_60 : decode cX0_takeLogsBack 60 = .ok (.aload_n 0, 1) := by decide +kernel
theorem dX0_takeLogsBack_61 : decode cX0_takeLogsBack 61 = .ok (.dup, 1) := by decide +kernel
theorem dX0_takeLogsBack_62 : decode cX0_takeLogsBack 62 = .ok (.getfield 75, 3) := by decide +kernel
theorem dX0_takeLogsBack_65 : decode cX0_takeLogsBack 65 = .ok (.iload_n 2, 1) := by decide +kernel
theorem dX0_takeLogsBack_66 : decode cX0_takeLogsBack 66 = .ok (.aload_n 0, 1) := by decide +kernel
theorem dX0_takeLogsBack_67 : decode cX0_takeLogsBack 67 = .ok (.getfield 33, 3) := by decide +kernel
theorem dX0_takeLogsBack_70 : decode cX0_takeLogsBack 70 = .ok (.getfield 113, 3) := by decide +kernel
theorem dX0_takeLogsBack_73 : decode cX0_takeLogsBack 73 = .ok (.iload_n 3, 1) := by decide +kernel
theorem dX0_takeLogsBack_74 : decode cX0_takeLogsBack 74 = .ok (.iaload, 1) := by decide +kernel
theorem dX0_takeLogsBack_75 : decode cX0_takeLogsBack 75 = .ok (.imul, 1) := by decide +kernel
theorem dX0_takeLogsBack_76 : decode cX0_takeLogsBack 76 = .ok (.isub, 1) := by decide +kernel
theorem dX0_takeLogsBack_77 : decode cX0_takeLogsBack 77 = .ok (.putfield 75, 3) := by decide +kernel
theorem dX0_takeLogsBack_80 : decode cX0_takeLogsBack 80 = .ok (.aload_n 0, 1) := by decide +kernel
theorem dX0_takeLogsBack_81 : decode cX0_takeLogsBack 81 = .ok (.getfield 9, 3) := by decide +kernel
theorem dX0_takeLogsBack_84 : decode cX0_takeLogsBack 84 = .ok (.iload_n 1, 1) := by decide +kernel
theorem dX0_takeLogsBack_85 : decode cX0_takeLogsBack 85 = .ok (.iconst 0, 1) := by decide +kernel
theorem dX0_takeLogsBack_86 : decode cX0_takeLogsBack 86 = .ok (.iastore, 1) := by decide +kernel
theorem dX0_takeLogsBack_87 : decode cX0_takeLogsBack 87 = .ok (.iconst 0, 1) := by decide +kernel
theorem dX0_takeLogsBack_88 : decode cX0_takeLogsBack 88 = .ok (.istore 4, 2) := by decide +kernel
theorem dX0_takeLogsBack_90 : decode cX0_takeLogsBack 90 = .ok (.iload 4, 2) := by decide +kernel
theorem dX0_takeLogsBack_92 : decode cX0_takeLogsBack 92 = .ok (.iconst 4, 1) := by decide +kernel
theorem dX0_takeLogsBack_93 : decode cX0_takeLogsBack 93 = .ok (.if_icmp .ge 33, 3) := by decide +kernel
theorem dX0_takeLogsBack_96 : decode cX0_takeLogsBack 96 = .ok (.aload_n 0, 1) := by decide +kernel
theorem dX0_takeLogsBack_97 : decode cX0_takeLogsBack 97 = .ok (.getfield 18, 3) := by decide +kernel
theorem dX0_takeLogsBack_100 : decode cX0_takeLogsBack 100 = .ok (.iload 4, 2) := by decide +kernel
theorem dX0_takeLogsBack_102 : decode cX0_takeLogsBack 102 = .ok (.dup2, 1) := by decide +kernel
theorem dX0_takeLogsBack_103 : decode cX0_takeLogsBack 103 = .ok (.iaload, 1) := by decide +kernel
theorem dX0_takeLogsBack_104 : decode cX0_takeLogsBack 104 = .ok (.iload_n 2, 1) := by decide +kernel
theorem dX0_takeLogsBack_105 : decode cX0_takeLogsBack 105 = .ok (.aload_n 0, 1) := by decide +kernel
theorem dX0_takeLogsBack_106 : decode cX0_takeLogsBack 106 = .ok (.getfield 33, 3) := by decide +kernel
theorem dX0_takeLogsBack_109 : decode cX0_takeLogsBack 109 = .ok (.getfield 116, 3) := by decide +kernel
theorem dX0_takeLogsBack_112 : decode cX0_takeLogsBack 112 = .ok (.iload_n 1, 1) := by decide +kernel
theorem dX0_takeLogsBack_113 : decode cX0_takeLogsBack 113 = .ok (.aaload, 1) := by decide +kernel
theorem dX0_takeLogsBack_114 : decode cX0_takeLogsBack 114 = .ok (.iload 4, 2) := by decide +kernel
theorem dX0_takeLogsBack_116 : decode cX0_takeLogsBack 116 = .ok (.iaload, 1) := by decide +kernel
theorem dX0_takeLogsBack_117 : decode cX0_takeLogsBack 117 = .ok (.imul, 1) := by decide +kernel
theorem dX0_takeLogsBack_118 : decode cX0_takeLogsBack 118 = .ok (.isub, 1) := by decide +kernel
theorem dX0_takeLogsBack_119 : decode cX0_takeLogsBack 119 = .ok (.iastore, 1) := by decide +kernel
theorem dX0_takeLogsBack_120 : decode cX0_takeLogsBack 120 = .ok (.iinc 4 1, 3) := by decide +kernel
theorem dX0_takeLogsBack_123 : decode cX0_takeLogsBack 123 = .ok (.goto (-33), 3) := by decide +kernel
theorem dX0_takeLogsBack_126 : decode cX0_takeLogsBack 126 = .ok (.return_, 1) := by decide +kernel
theorem dX0_fillsOrders_0 : decode cX0_fillsOrders 0 = .ok (.iconst 0, 1) := by decide +kernel
theorem dX0_fillsOrders_1 : decode cX0_fillsOrders 1 = .ok (.istore_n 1, 1) := by decide +kernel
theorem dX0_fillsOrders_2 : decode cX0_fillsOrders 2 = .ok (.iload_n 1, 1) := by decide +kernel
theorem dX0_fillsOrders_3 : decode cX0_fillsOrders 3 = .ok (.iconst 4, 1) := by decide +kernel
theorem dX0_fillsOrders_4 : decode cX0_fillsOrders 4 = .ok (.if_icmp .ge 26, 3) := by decide +kernel
theorem dX0_fillsOrders_7 : decode cX0_fillsOrders 7 = .ok (.aload_n 0, 1) := by decide +kernel
theorem dX0_fillsOrders_8 : decode cX0_fillsOrders 8 = .ok (.getfield 18, 3) := by decide +kernel
theorem dX0_fillsOrders_11 : decode cX0_fillsOrders 11 = .ok (.iload_n 1, 1) := by decide +kernel
theorem dX0_fillsOrders_12 : decode cX0_fillsOrders 12 = .ok (.iaload, 1) := by decide +kernel
theorem dX0_fillsOrders_13 : decode cX0_fillsOrders 13 = .ok (.aload_n 0, 1) := by decide +kernel
theorem dX0_fillsOrders_14 : decode cX0_fillsOrders 14 = .ok (.getfield 21, 3) := by decide +kernel
theorem dX0_fillsOrders_17 : decode cX0_fillsOrders 17 = .ok (.iload_n 1, 1) := by decide +kernel
theorem dX0_fillsOrders_18 : decode cX0_fillsOrders 18 = .ok (.iaload, 1) := by decide +kernel
theorem dX0_fillsOrders_19 : decode cX0_fillsOrders 19 = .ok (.if_icmp .ge 5, 3) := by decide +kernel
theorem dX0_fillsOrders_22 : decode cX0_fillsOrders 22 = .ok (.iconst 0, 1) := by decide +kernel
theorem dX0_fillsOrders_23 : decode cX0_fillsOrders 23 = .ok (.ireturn, 1) := by decide +kernel
theorem dX0_fillsOrders_24 : decode cX0_fillsOrders 24 = .ok (.iinc 1 1, 3) := by decide +kernel
theorem dX0_fillsOrders_27 : decode cX0_fillsOrders 27 = .ok (.goto (-25), 3) := by decide +kernel
theorem dX0_fillsOrders_30 : decode cX0_fillsOrders 30 = .ok (.iconst 1, 1) := by decide +kernel
theorem dX0_fillsOrders_31 : decode cX0_fillsOrders 31 = .ok (.ireturn, 1) := by decide +kernel
theorem dX0_gainOfPlan_0 : decode cX0_gainOfPlan 0 = .ok (.aload_n 0, 1) := by decide +kernel
theorem dX0_gainOfPlan_1 : decode cX0_gainOfPlan 1 = .ok (.getfield 75, 3) := by decide +kernel
theorem dX0_gainOfPlan_4 : decode cX0_gainOfPlan 4 = .ok (.ineg, 1) := by decide +kernel
theorem dX0_gainOfPlan_5 : decode cX0_gainOfPlan 5 = .ok (.istore_n 1, 1) := by decide +kernel
theorem dX0_gainOfPlan_6 : decode cX0_gainOfPlan 6 = .ok (.iconst 0, 1) := by decide +kernel
theorem dX0_gainOfPlan_7 : decode cX0_gainOfPlan 7 = .ok (.istore_n 2, 1) := by decide +kernel
theorem dX0_gainOfPlan_8 : decode cX0_gainOfPlan 8 = .ok (.iload_n 2, 1) := by decide +kernel
theorem dX0_gainOfPlan_9 : decode cX0_gainOfPlan 9 = .ok (.iconst 4, 1) := by decide +kernel
theorem dX0_gainOfPlan_10 : decode cX0_gainOfPlan 10 = .ok (.if_icmp .ge 34, 3) := by decide +kernel
theorem dX0_gainOfPlan_13 : decode cX0_gainOfPlan 13 = .ok (.iload_n 1, 1) := by decide +kernel
theorem dX0_gainOfPlan_14 : decode cX0_gainOfPlan 14 = .ok (.aload_n 0, 1) := by decide +kernel
theorem dX0_gainOfPlan_15 : decode cX0_gainOfPlan 15 = .ok (.getfield 27, 3) := by decide +kernel
theorem dX0_gainOfPlan_18 : decode cX0_gainOfPlan 18 = .ok (.iload_n 2, 1) := by decide +kernel
theorem dX0_gainOfPlan_19 : decode cX0_gainOfPlan 19 = .ok (.iaload, 1) := by decide +kernel
theorem dX0_gainOfPlan_20 : decode cX0_gainOfPlan 20 = .ok (.aload_n 0, 1) := by decide +kernel
theorem dX0_gainOfPlan_21 : decode cX0_gainOfPlan 21 = .ok (.getfield 18, 3) := by decide +kernel
theorem dX0_gainOfPlan_24 : decode cX0_gainOfPlan 24 = .ok (.iload_n 2, 1) := by decide +kernel
theorem dX0_gainOfPlan_25 : decode cX0_gainOfPlan 25 = .ok (.iaload, 1) := by decide +kernel
theorem dX0_gainOfPlan_26 : decode cX0_gainOfPlan 26 = .ok (.aload_n 0, 1) := by decide +kernel
theorem dX0_gainOfPlan_27 : decode cX0_gainOfPlan 27 = .ok (.getfield 24, 3) := by decide +kernel
theorem dX0_gainOfPlan_30 : decode cX0_gainOfPlan 30 = .ok (.iload_n 2, 1) := by decide +kernel
theorem dX0_gainOfPlan_31 : decode cX0_gainOfPlan 31 = .ok (.iaload, 1) := by decide +kernel
theorem dX0_gainOfPlan_32 : decode cX0_gainOfPlan 32 = .ok (.invokestatic 137, 3) := by decide +kernel
theorem dX0_gainOfPlan_35 : decode cX0_gainOfPlan 35 = .ok (.imul, 1) := by decide +kernel
theorem dX0_gainOfPlan_36 : decode cX0_gainOfPlan 36 = .ok (.iadd, 1) := by decide +kernel
theorem dX0_gainOfPlan_37 : decode cX0_gainOfPlan 37 = .ok (.istore_n 1, 1) := by decide +kernel
theorem dX0_gainOfPlan_38 : decode cX0_gainOfPlan 38 = .ok (.iinc 2 1, 3) := by decide +kernel
theorem dX0_gainOfPlan_41 : decode cX0_gainOfPlan 41 = .ok (.goto (-33), 3) := by decide +kernel
theorem dX0_gainOfPlan_44 : decode cX0_gainOfPlan 44 = .ok (.iload_n 1, 1) := by decide +kernel
theorem dX0_gainOfPlan_45 : decode cX0_gainOfPlan 45 = .ok (.ireturn, 1) := by decide +kernel
theorem dX0_lookAtPlan_0 : decode cX0_lookAtPlan 0 = .ok (.aload_n 0, 1) := by decide +kernel
theorem dX0_lookAtPlan_1 : decode cX0_lookAtPlan 1 = .ok (.invokevirtual 120, 3) := by decide +kernel
theorem dX0_lookAtPlan_4 : decode cX0_lookAtPlan 4 = .ok (.ifCond .ne 4, 3) := by decide +kernel
theorem dX0_lookAtPlan_7 : decode cX0_lookAtPlan 7 = .ok (.return_, 1) := by decide +kernel
theorem dX0_lookAtPlan_8 : decode cX0_lookAtPlan 8 = .ok (.aload_n 0, 1) := by decide +kernel
theorem dX0_lookAtPlan_9 : decode cX0_lookAtPlan 9 = .ok (.invokevirtual 124, 3) := by decide +kernel
theorem dX0_lookAtPlan_12 : decode cX0_lookAtPlan 12 = .ok (.istore_n 1, 1) := by decide +kernel
theorem dX0_lookAtPlan_13 : decode cX0_lookAtPlan 13 = .ok (.aload_n 0, 1) := by decide +kernel
theorem dX0_lookAtPlan_14 : decode cX0_lookAtPlan 14 = .ok (.getfield 55, 3) := by decide +kernel
theorem dX0_lookAtPlan_17 : decode cX0_lookAtPlan 17 = .ok (.ifCond .eq 11, 3) := by decide +kernel
theorem dX0_lookAtPlan_20 : decode cX0_lookAtPlan 20 = .ok (.iload_n 1, 1) := by decide +kernel
theorem dX0_lookAtPlan_21 : decode cX0_lookAtPlan 21 = .ok (.aload_n 0, 1) := by decide +kernel
theorem dX0_lookAtPlan_22 : decode cX0_lookAtPlan 22 = .ok (.getfield 128, 3) := by decide +kernel
theorem dX0_lookAtPlan_25 : decode cX0_lookAtPlan 25 = .ok (.if_icmp .le 28, 3) := by decide +kernel
theorem dX0_lookAtPlan_28 : decode cX0_lookAtPlan 28 = .ok (.aload_n 0, 1) := by decide +kernel
theorem dX0_lookAtPlan_29 : decode cX0_lookAtPlan 29 = .ok (.iconst 1, 1) := by decide +kernel
theorem dX0_lookAtPlan_30 : decode cX0_lookAtPlan 30 = .ok (.putfield 55, 3) := by decide +kernel
theorem dX0_lookAtPlan_33 : decode cX0_lookAtPlan 33 = .ok (.aload_n 0, 1) := by decide +kernel
theorem dX0_lookAtPlan_34 : decode cX0_lookAtPlan 34 = .ok (.iload_n 1, 1) := by decide +kernel
theorem dX0_lookAtPlan_35 : decode cX0_lookAtPlan 35 = .ok (.putfield 128, 3) := by decide +kernel
theorem dX0_lookAtPlan_38 : decode cX0_lookAtPlan 38 = .ok (.aload_n 0, 1) := by decide +kernel
theorem dX0_lookAtPlan_39 : decode cX0_lookAtPlan 39 = .ok (.getfield 9, 3) := by decide +kernel
theorem dX0_lookAtPlan_42 : decode cX0_lookAtPlan 42 = .ok (.iconst 0, 1) := by decide +kernel
theorem dX0_lookAtPlan_43 : decode cX0_lookAtPlan 43 = .ok (.aload_n 0, 1) := by decide +kernel
theorem dX0_lookAtPlan_44 : decode cX0_lookAtPlan 44 = .ok (.getfield 30, 3) := by decide +kernel
theorem dX0_lookAtPlan_47 : decode cX0_lookAtPlan 47 = .ok (.iconst 0, 1) := by decide +kernel
theorem dX0_lookAtPlan_48 : decode cX0_lookAtPlan 48 = .ok (.bipush 6, 2) := by decide +kernel
theorem dX0_lookAtPlan_50 : decode cX0_lookAtPlan 50 = .ok (.invokestatic 131, 3) := by decide +kernel
theorem dX0_lookAtPlan_53 : decode cX0_lookAtPlan 53 = .ok (.return_, 1) := by decide +kernel
theorem dX0_tellPatternsFrom_0 : decode cX0_tellPatternsFrom 0 = .ok (.iload_n 1, 1) := by decide +kernel
theorem dX0_tellPatternsFrom_1 : decode cX0_tellPatternsFrom 1 = .ok (.aload_n 0, 1) := by decide +kernel
theorem dX0_tellPatternsFrom_2 : decode cX0_tellPatternsFrom 2 = .ok (.getfield 33, 3) := by decide +kernel
theorem dX0_tellPatternsFrom_5 : decode cX0_tellPatternsFrom 5 = .ok (.getfield 81, 3) := by decide +kernel
theorem dX0_tellPatternsFrom_8 : decode cX0_tellPatternsFrom 8 = .ok (.if_icmp .ge 9, 3) := by decide +kernel
theorem dX0_tellPatternsFrom_11 : decode cX0_tellPatternsFrom 11 = .ok (.iload_n 1, 1) := by decide +kernel
theorem dX0_tellPatternsFrom_12 : decode cX0_tellPatternsFrom 12 = .ok (.bipush 6, 2) := by decide +kernel
theorem dX0_tellPatternsFrom_14 : decode cX0_tellPatternsFrom 14 = .ok (.if_icmp .lt 8, 3) := by decide +kernel
theorem dX0_tellPatternsFrom_17 : decode cX0_tellPatternsFrom 17 = .ok (.aload_n 0, 1) := by decide +kernel
theorem dX0_tellPatternsFrom_18 : decode cX0_tellPatternsFrom 18 = .ok (.invokevirtual 84, 3) := by decide +kernel
theorem dX0_tellPatternsFrom_21 : decode cX0_tellPatternsFrom 21 = .ok (.return_, 1) := by decide +kernel
theorem dX0_tellPatternsFrom_22 : decode cX0_tellPatternsFrom 22 = .ok (.aload_n 0, 1) := by decide +kernel
theorem dX0_tellPatternsFrom_23 : decode cX0_tellPatternsFrom 23 = .ok (.iload_n 1, 1) := by decide +kernel
theorem dX0_tellPatternsFrom_24 : decode cX0_tellPatternsFrom 24 = .ok (.invokevirtual 87, 3) := by decide +kernel
theorem dX0_tellPatternsFrom_27 : decode cX0_tellPatternsFrom 27 = .ok (.iconst 1, 1) := by decide +kernel
theorem dX0_tellPatternsFrom_28 : decode cX0_tellPatternsFrom 28 = .ok (.istore_n 2, 1) := by decide +kernel
theorem dX0_tellPatternsFrom_29 : decode cX0_tellPatternsFrom 29 = .ok (.iload_n 2, 1) := by decide +kernel
theorem dX0_tellPatternsFrom_30 : decode cX0_tellPatternsFrom 30 = .ok (.bipush 12, 2) := by decide +kernel
theorem dX0_tellPatternsFrom_32 : decode cX0_tellPatternsFrom 32 = .ok (.if_icmp .gt 37, 3) := by decide +kernel
theorem dX0_tellPatternsFrom_35 : decode cX0_tellPatternsFrom 35 = .ok (.aload_n 0, 1) := by decide +kernel
theorem dX0_tellPatternsFrom_36 : decode cX0_tellPatternsFrom 36 = .ok (.getfield 51, 3) := by decide +kernel
theorem dX0_tellPatternsFrom_39 : decode cX0_tellPatternsFrom 39 = .ok (.ifCond .ne 30, 3) := by decide +kernel
theorem dX0_tellPatternsFrom_42 : decode cX0_tellPatternsFrom 42 = .ok (.aload_n 0, 1) := by decide +kernel
theorem dX0_tellPatternsFrom_43 : decode cX0_tellPatternsFrom 43 = .ok (.iload_n 1, 1) := by decide +kernel
theorem dX0_tellPatternsFrom_44 : decode cX0_tellPatternsFrom 44 = .ok (.invokevirtual 90, 3) := by decide +kernel
theorem dX0_tellPatternsFrom_47 : decode cX0_tellPatternsFrom 47 = .ok (.ifCond .ne 6, 3) := by decide +kernel
theorem dX0_tellPatternsFrom_50 : decode cX0_tellPatternsFrom 50 = .ok (.goto 19, 3) := by decide +kernel
theorem dX0_tellPatternsFrom_53 : decode cX0_tellPatternsFrom 53 = .ok (.aload_n 0, 1) := by decide +kernel
theorem dX0_tellPatternsFrom_54 : decode cX0_tellPatternsFrom 54 = .ok (.iload_n 1, 1) := by decide +kernel
theorem dX0_tellPatternsFrom_55 : decode cX0_tellPatternsFrom 55 = .ok (.invokevirtual 94, 3) := by decide +kernel
theorem dX0_tellPatternsFrom_58 : decode cX0_tellPatternsFrom 58 = .ok (.aload_n 0, 1) := by decide +kernel
theorem dX0_tellPatternsFrom_59 : decode cX0_tellPatternsFrom 59 = .ok (.iload_n 1, 1) := by decide +kernel
theorem dX0_tellPatternsFrom_60 : decode cX0_tellPatternsFrom 60 = .ok (.invokevirtual 87, 3) := by decide +kernel
theorem dX0_tellPatternsFrom_63 : decode cX0_tellPatternsFrom 63 = .ok (.iinc 2 1, 3) := by decide +kernel
theorem dX0_tellPatternsFrom_66 : decode cX0_tellPatternsFrom 66 = .ok (.goto (-37), 3) := by decide +kernel
theorem dX0_tellPatternsFrom_69 : decode cX0_tellPatternsFrom 69 = .ok (.aload_n 0, 1) := by decide +kernel
theorem dX0_tellPatternsFrom_70 : decode cX0_tellPatternsFrom 70 = .ok (.iload_n 1, 1) := by decide +kernel
theorem dX0_tellPatternsFrom_71 : decode cX0_tellPatternsFrom 71 = .ok (.invokevirtual 97, 3) := by decide +kernel
theorem dX0_tellPatternsFrom_74 : decode cX0_tellPatternsFrom 74 = .ok (.return_, 1) := by decide +kernel
theorem dX0_takeStep_0 : decode cX0_takeStep 0 = .ok (.aload_n 0, 1) := by decide +kernel
theorem dX0_takeStep_1 : decode cX0_takeStep 1 = .ok (.getfield 48, 3) := by decide +kernel
theorem dX0_takeStep_4 : decode cX0_takeStep 4 = .ok (.aload_n 0, 1) := by decide +kernel
theorem dX0_takeStep_5 : decode cX0_takeStep 5 = .ok (.getfield 44, 3) := by decide +kernel
theorem dX0_takeStep_8 : decode cX0_takeStep 8 = .ok (.if_icmp .lt 9, 3) := by decide +kernel
theorem dX0_takeStep_11 : decode cX0_takeStep 11 = .ok (.aload_n 0, 1) := by decide +kernel
theorem dX0_takeStep_12 : decode cX0_takeStep 12 = .ok (.iconst 1, 1) := by decide +kernel
theorem dX0_takeStep_13 : decode cX0_takeStep 13 = .ok (.putfield 51, 3) := by decide +kernel
theorem dX0_takeStep_16 : decode cX0_takeStep 16 = .ok (.return_, 1) := by decide +kernel
theorem dX0_takeStep_17 : decode cX0_takeStep 17 = .ok (.aload_n 0, 1) := by decide +kernel
theorem dX0_takeStep_18 : decode cX0_takeStep 18 = .ok (.dup, 1) := by decide +kernel
theorem dX0_takeStep_19 : decode cX0_takeStep 19 = .ok (.getfield 48, 3) := by decide +kernel
theorem dX0_takeStep_22 : decode cX0_takeStep 22 = .ok (.iconst 1, 1) := by decide +kernel
theorem dX0_takeStep_23 : decode cX0_takeStep 23 = .ok (.iadd, 1) := by decide +kernel
theorem dX0_takeStep_24 : decode cX0_takeStep 24 = .ok (.putfield 48, 3) := by decide +kernel
theorem dX0_takeStep_27 : decode cX0_takeStep 27 = .ok (.aload_n 0, 1) := by decide +kernel
theorem dX0_takeStep_28 : decode cX0_takeStep 28 = .ok (.iload_n 1, 1) := by decide +kernel
theorem dX0_takeStep_29 : decode cX0_takeStep 29 = .ok (.iconst 1, 1) := by decide +kernel
theorem dX0_takeStep_30 : decode cX0_takeStep 30 = .ok (.iadd, 1) := by decide +kernel
theorem dX0_takeStep_31 : decode cX0_takeStep 31 = .ok (.invokevirtual 58, 3) := by decide +kernel
theorem dX0_takeStep_34 : decode cX0_takeStep 34 = .ok (.return_, 1) := by decide +kernel
theorem dX0_goThroughPlans_0 : decode cX0_goThroughPlans 0 = .ok (.aload_n 0, 1) := by decide +kernel
theorem dX0_goThroughPlans_1 : decode cX0_goThroughPlans 1 = .ok (.invokevirtual 37, 3) := by decide +kernel
theorem dX0_goThroughPlans_4 : decode cX0_goThroughPlans 4 = .ok (.aload_n 0, 1) := by decide +kernel
theorem dX0_goThroughPlans_5 : decode cX0_goThroughPlans 5 = .ok (.iload_n 2, 1) := by decide +kernel
theorem dX0_goThroughPlans_6 : decode cX0_goThroughPlans 6 = .ok (.invokevirtual 40, 3) := by decide +kernel
theorem dX0_goThroughPlans_9 : decode cX0_goThroughPlans 9 = .ok (.aload_n 0, 1) := by decide +kernel
theorem dX0_goThroughPlans_10 : decode cX0_goThroughPlans 10 = .ok (.iload_n 1, 1) := by decide +kernel
theorem dX0_goThroughPlans_11 : decode cX0_goThroughPlans 11 = .ok (.putfield 44, 3) := by decide +kernel
theorem dX0_goThroughPlans_14 : decode cX0_goThroughPlans 14 = .ok (.aload_n 0, 1) := by decide +kernel
theorem dX0_goThroughPlans_15 : decode cX0_goThroughPlans 15 = .ok (.iconst 0, 1) := by decide +kernel
theorem dX0_goThroughPlans_16 : decode cX0_goThroughPlans 16 = .ok (.putfield 48, 3) := by decide +kernel
theorem dX0_goThroughPlans_19 : decode cX0_goThroughPlans 19 = .ok (.aload_n 0, 1) := by decide +kernel
theorem dX0_goThroughPlans_20 : decode cX0_goThroughPlans 20 = .ok (.iconst 0, 1) := by decide +kernel
theorem dX0_goThroughPlans_21 : decode cX0_goThroughPlans 21 = .ok (.putfield 51, 3) := by decide +kernel
theorem dX0_goThroughPlans_24 : decode cX0_goThroughPlans 24 = .ok (.aload_n 0, 1) := by decide +kernel
theorem dX0_goThroughPlans_25 : decode cX0_goThroughPlans 25 = .ok (.iconst 0, 1) := by decide +kernel
theorem dX0_goThroughPlans_26 : decode cX0_goThroughPlans 26 = .ok (.putfield 55, 3) := by decide +kernel
theorem dX0_goThroughPlans_29 : decode cX0_goThroughPlans 29 = .ok (.aload_n 0, 1) := by decide +kernel
theorem dX0_goThroughPlans_30 : decode cX0_goThroughPlans 30 = .ok (.iconst 0, 1) := by decide +kernel
theorem dX0_goThroughPlans_31 : decode cX0_goThroughPlans 31 = .ok (.invokevirtual 58, 3) := by decide +kernel
theorem dX0_goThroughPlans_34 : decode cX0_goThroughPlans 34 = .ok (.return_, 1) := by decide +kernel
theorem dX1_boundOfGain_0 : decode cX1_boundOfGain 0 = .ok (.iconst 0, 1) := by decide +kernel
theorem dX1_boundOfGain_1 : decode cX1_boundOfGain 1 = .ok (.istore_n 1, 1) := by decide +kernel
theorem dX1_boundOfGain_2 : decode cX1_boundOfGain 2 = .ok (.iconst 0, 1) := by decide +kernel
theorem dX1_boundOfGain_3 : decode cX1_boundOfGain 3 = .ok (.istore_n 2, 1) := by decide +kernel
theorem dX1_boundOfGain_4 : decode cX1_boundOfGain 4 = .ok (.iload_n 2, 1) := by decide +kernel
theorem dX1_boundOfGain_5 : decode cX1_boundOfGain 5 = .ok (.iconst 4, 1) := by decide +kernel
theorem dX1_boundOfGain_6 : decode cX1_boundOfGain 6 = .ok (.if_icmp .ge 25, 3) := by decide +kernel
theorem dX1_boundOfGain_9 : decode cX1_boundOfGain 9 = .ok (.iload_n 1, 1) := by decide +kernel
theorem dX1_boundOfGain_10 : decode cX1_boundOfGain 10 = .ok (.aload_n 0, 1) := by decide +kernel
theorem dX1_boundOfGain_11 : decode cX1_boundOfGain 11 = .ok (.getfield 35, 3) := by decide +kernel
theorem dX1_boundOfGain_14 : decode cX1_boundOfGain 14 = .ok (.iload_n 2, 1) := by decide +kernel
theorem dX1_boundOfGain_15 : decode cX1_boundOfGain 15 = .ok (.iaload, 1) := by decide +kernel
theorem dX1_boundOfGain_16 : decode cX1_boundOfGain 16 = .ok (.aload_n 0, 1) := by decide +kernel
theorem dX1_boundOfGain_17 : decode cX1_boundOfGain 17 = .ok (.getfield 32, 3) := by decide +kernel
theorem dX1_boundOfGain_20 : decode cX1_boundOfGain 20 = .ok (.iload_n 2, 1) := by decide +kernel
theorem dX1_boundOfGain_21 : decode cX1_boundOfGain 21 = .ok (.iaload, 1) := by decide +kernel
theorem dX1_boundOfGain_22 : decode cX1_boundOfGain 22 = .ok (.imul, 1) := by decide +kernel
theorem dX1_boundOfGain_23 : decode cX1_boundOfGain 23 = .ok (.iadd, 1) := by decide +kernel
theorem dX1_boundOfGain_24 : decode cX1_boundOfGain 24 = .ok (.istore_n 1, 1) := by decide +kernel
theorem dX1_boundOfGain_25 : decode cX1_boundOfGain 25 = .ok (.iinc 2 1, 3) := by decide +kernel
theorem dX1_boundOfGain_28 : decode cX1_boundOfGain 28 = .ok (.goto (-24), 3) := by decide +kernel
theorem dX1_boundOfGain_31 : decode cX1_boundOfGain 31 = .ok (.iload_n 1, 1) := by decide +kernel
theorem dX1_boundOfGain_32 : decode cX1_boundOfGain 32 = .ok (.ireturn, 1) := by decide +kernel
theorem dX1_patternsUsedIn_0 : decode cX1_patternsUsedIn 0 = .ok (.iconst 0, 1) := by decide +kernel
theorem dX1_patternsUsedIn_1 : decode cX1_patternsUsedIn 1 = .ok (.istore_n 2, 1) := by decide +kernel
theorem dX1_patternsUsedIn_2 : decode cX1_patternsUsedIn 2 = .ok (.iconst 0, 1) := by decide +kernel
theorem dX1_patternsUsedIn_3 : decode cX1_patternsUsedIn 3 = .ok (.istore_n 3, 1) := by decide +kernel
theorem dX1_patternsUsedIn_4 : decode cX1_patternsUsedIn 4 = .ok (.iload_n 3, 1) := by decide +kernel
theorem dX1_patternsUsedIn_5 : decode cX1_patternsUsedIn 5 = .ok (.aload_n 0, 1) := by decide +kernel
theorem dX1_patternsUsedIn_6 : decode cX1_patternsUsedIn 6 = .ok (.getfield 45, 3) := by decide +kernel
theorem dX1_patternsUsedIn_9 : decode cX1_patternsUsedIn 9 = .ok (.if_icmp .ge 18, 3) := by decide +kernel
theorem dX1_patternsUsedIn_12 : decode cX1_patternsUsedIn 12 = .ok (.aload_n 1, 1) := by decide +kernel
theorem dX1_patternsUsedIn_13 : decode cX1_patternsUsedIn 13 = .ok (.iload_n 3, 1) := by decide +kernel
theorem dX1_patternsUsedIn_14 : decode cX1_patternsUsedIn 14 = .ok (.iaload, 1) := by decide +kernel
theorem dX1_patternsUsedIn_15 : decode cX1_patternsUsedIn 15 = .ok (.ifCond .le 6, 3) := by decide +kernel
theorem dX1_patternsUsedIn_18 : decode cX1_patternsUsedIn 18 = .ok (.iinc 2 1, 3) := by decide +kernel
theorem dX1_patternsUsedIn_21 : decode cX1_patternsUsedIn 21 = .ok (.iinc 3 1, 3) := by decide +kernel
theorem dX1_patternsUsedIn_24 : decode cX1_patternsUsedIn 24 = .ok (.goto (-20), 3) := by decide +kernel
theorem dX1_patternsUsedIn_27 : decode cX1_patternsUsedIn 27 = .ok (.iload_n 2, 1) := by decide +kernel
theorem dX1_patternsUsedIn_28 : decode cX1_patternsUsedIn 28 = .ok (.ireturn, 1) := by decide +kernel
theorem dX1_minutesOf_0 : decode cX1_minutesOf 0 = .ok (.iconst 0, 1) := by decide +kernel
theorem dX1_minutesOf_1 : decode cX1_minutesOf 1 = .ok (.istore_n 2, 1) := by decide +kernel
theorem dX1_minutesOf_2 : decode cX1_minutesOf 2 = .ok (.iconst 0, 1) := by decide +kernel
theorem dX1_minutesOf_3 : decode cX1_minutesOf 3 = .ok (.istore_n 3, 1) := by decide +kernel
theorem dX1_minutesOf_4 : decode cX1_minutesOf 4 = .ok (.iload_n 3, 1) := by decide +kernel
theorem dX1_minutesOf_5 : decode cX1_minutesOf 5 = .ok (.aload_n 0, 1) := by decide +kernel
theorem dX1_minutesOf_6 : decode cX1_minutesOf 6 = .ok (.getfield 45, 3) := by decide +kernel
theorem dX1_minutesOf_9 : decode cX1_minutesOf 9 = .ok (.if_icmp .ge 22, 3) := by decide +kernel
theorem dX1_minutesOf_12 : decode cX1_minutesOf 12 = .ok (.iload_n 2, 1) := by decide +kernel
theorem dX1_minutesOf_13 : decode cX1_minutesOf 13 = .ok (.aload_n 1, 1) := by decide +kernel
theorem dX1_minutesOf_14 : decode cX1_minutesOf 14 = .ok (.iload_n 3, 1) := by decide +kernel
theorem dX1_minutesOf_15 : decode cX1_minutesOf 15 = .ok (.iaload, 1) := by decide +kernel
theorem dX1_minutesOf_16 : decode cX1_minutesOf 16 = .ok (.aload_n 0, 1) := by decide +kernel
theorem dX1_minutesOf_17 : decode cX1_minutesOf 17 = .ok (.getfield 21, 3) := by decide +kernel
theorem dX1_minutesOf_20 : decode cX1_minutesOf 20 = .ok (.iload_n 3, 1) := by decide +kernel
theorem dX1_minutesOf_21 : decode cX1_minutesOf 21 = .ok (.iaload, 1) := by decide +kernel
theorem dX1_minutesOf_22 : decode cX1_minutesOf 22 = .ok (.imul, 1) := by decide +kernel
theorem dX1_minutesOf_23 : decode cX1_minutesOf 23 = .ok (.iadd, 1) := by decide +kernel
theorem dX1_minutesOf_24 : decode cX1_minutesOf 24 = .ok (.istore_n 2, 1) := by decide +kernel
theorem dX1_minutesOf_25 : decode cX1_minutesOf 25 = .ok (.iinc 3 1, 3) := by decide +kernel
theorem dX1_minutesOf_28 : decode cX1_minutesOf 28 = .ok (.goto (-24), 3) := by decide +kernel
theorem dX1_minutesOf_31 : decode cX1_minutesOf 31 = .ok (.iload_n 2, 1) := by decide +kernel
theorem dX1_minutesOf_32 : decode cX1_minutesOf 32 = .ok (.aload_n 0, 1) := by decide +kernel
theorem dX1_minutesOf_33 : decode cX1_minutesOf 33 = .ok (.aload_n 1, 1) := by decide +kernel
theorem dX1_minutesOf_34 : decode cX1_minutesOf 34 = .ok (.invokevirtual 48, 3) := by decide +kernel
theorem dX1_minutesOf_37 : decode cX1_minutesOf 37 = .ok (.aload_n 0, 1) := by decide +kernel
theorem dX1_minutesOf_38 : decode cX1_minutesOf 38 = .ok (.getfield 52, 3) := by decide +kernel
theorem dX1_minutesOf_41 : decode cX1_minutesOf 41 = .ok (.imul, 1) := by decide +kernel
theorem dX1_minutesOf_42 : decode cX1_minutesOf 42 = .ok (.iadd, 1) := by decide +kernel
theorem dX1_minutesOf_43 : decode cX1_minutesOf 43 = .ok (.ireturn, 1) := by decide +kernel
theorem dX1_madeBy_0 : decode cX1_madeBy 0 = .ok (.aload_n 0, 1) := by decide +kernel
theorem dX1_madeBy_1 : decode cX1_madeBy 1 = .ok (.getfield 38, 3) := by decide +kernel
theorem dX1_madeBy_4 : decode cX1_madeBy 4 = .ok (.iload_n 2, 1) := by decide +kernel
theorem dX1_madeBy_5 : decode cX1_madeBy 5 = .ok (.iaload, 1) := by decide +kernel
theorem dX1_madeBy_6 : decode cX1_madeBy 6 = .ok (.istore_n 3, 1) := by decide +kernel
theorem dX1_madeBy_7 : decode cX1_madeBy 7 = .ok (.iconst 0, 1) := by decide +kernel
theorem dX1_madeBy_8 : decode cX1_madeBy 8 = .ok (.istore 4, 2) := by decide +kernel
theorem dX1_madeBy_10 : decode cX1_madeBy 10 = .ok (.iload 4, 2) := by decide +kernel
theorem dX1_madeBy_12 : decode cX1_madeBy 12 = .ok (.aload_n 0, 1) := by decide +kernel
theorem dX1_madeBy_13 : decode cX1_madeBy 13 = .ok (.getfield 45, 3) := by decide +kernel
theorem dX1_madeBy_16 : decode cX1_madeBy 16 = .ok (.if_icmp .ge 26, 3) := by decide +kernel
theorem dX1_madeBy_19 : decode cX1_madeBy 19 = .ok (.iload_n 3, 1) := by decide +kernel
theorem dX1_madeBy_20 : decode cX1_madeBy 20 = .ok (.aload_n 1, 1) := by decide +kernel
theorem dX1_madeBy_21 : decode cX1_madeBy 21 = .ok (.iload 4, 2) := by decide +kernel
theorem dX1_madeBy_23 : decode cX1_madeBy 23 = .ok (.iaload, 1) := by decide +kernel
theorem dX1_madeBy_24 : decode cX1_madeBy 24 = .ok (.aload_n 0, 1) := by decide +kernel
theorem dX1_madeBy_25 : decode cX1_madeBy 25 = .ok (.getfield 26, 3) := by decide +kernel
theorem dX1_madeBy_28 : decode cX1_madeBy 28 = .ok (.iload 4, 2) := by decide +kernel
theorem dX1_madeBy_30 : decode cX1_madeBy 30 = .ok (.aaload, 1) := by decide +kernel
theorem dX1_madeBy_31 : decode cX1_madeBy 31 = .ok (.iload_n 2, 1) := by decide +kernel
theorem dX1_madeBy_32 : decode cX1_madeBy 32 = .ok (.iaload, 1) := by decide +kernel
theorem dX1_madeBy_33 : decode cX1_madeBy 33 = .ok (.imul, 1) := by decide +kernel
theorem dX1_madeBy_34 : decode cX1_madeBy 34 = .ok (.iadd, 1) := by decide +kernel
theorem dX1_madeBy_35 : decode cX1_madeBy 35 = .ok (.istore_n 3, 1) := by decide +kernel
theorem dX1_madeBy_36 : decode cX1_madeBy 36 = .ok (.iinc 4 1, 3) := by decide +kernel
theorem dX1_madeBy_39 : decode cX1_madeBy 39 = .ok (.goto (-29), 3) := by decide +kernel
theorem dX1_madeBy_42 : decode cX1_madeBy 42 = .ok (.iload_n 3, 1) := by decide +kernel
theorem dX1_madeBy_43 : decode cX1_madeBy 43 = .ok (.ireturn, 1) := by decide +kernel
theorem dX1_doPlan_0 : decode cX1_doPlan 0 = .ok (.iconst 0, 1) := by decide +kernel
theorem dX1_doPlan_1 : decode cX1_doPlan 1 = .ok (.istore_n 2, 1) := by decide +kernel
theorem dX1_doPlan_2 : decode cX1_doPlan 2 = .ok (.iload_n 2, 1) := by decide +kernel
theorem dX1_doPlan_3 : decode cX1_doPlan 3 = .ok (.iconst 4, 1) := by decide +kernel
theorem dX1_doPlan_4 : decode cX1_doPlan 4 = .ok (.if_icmp .ge 34, 3) := by decide +kernel
theorem dX1_doPlan_7 : decode cX1_doPlan 7 = .ok (.aload_n 0, 1) := by decide +kernel
theorem dX1_doPlan_8 : decode cX1_doPlan 8 = .ok (.aload_n 1, 1) := by decide +kernel
theorem dX1_doPlan_9 : decode cX1_doPlan 9 = .ok (.iload_n 2, 1) := by decide +kernel
theorem dX1_doPlan_10 : decode cX1_doPlan 10 = .ok (.invokevirtual 55, 3) := by decide +kernel
theorem dX1_doPlan_13 : decode cX1_doPlan 13 = .ok (.istore_n 3, 1) := by decide +kernel
theorem dX1_doPlan_14 : decode cX1_doPlan 14 = .ok (.aload_n 0, 1) := by decide +kernel
theorem dX1_doPlan_15 : decode cX1_doPlan 15 = .ok (.getfield 38, 3) := by decide +kernel
theorem dX1_doPlan_18 : decode cX1_doPlan 18 = .ok (.iload_n 2, 1) := by decide +kernel
theorem dX1_doPlan_19 : decode cX1_doPlan 19 = .ok (.iload_n 3, 1) := by decide +kernel
theorem dX1_doPlan_20 : decode cX1_doPlan 20 = .ok (.iload_n 3, 1) := by decide +kernel
theorem dX1_doPlan_21 : decode cX1_doPlan 21 = .ok (.aload_n 0, 1) := by decide +kernel
theorem dX1_doPlan_22 : decode cX1_doPlan 22 = .ok (.getfield 32, 3) := by decide +kernel
theorem dX1_doPlan_25 : decode cX1_doPlan 25 = .ok (.iload_n 2, 1) := by decide +kernel
theorem dX1_doPlan_26 : decode cX1_doPlan 26 = .ok (.iaload, 1) := by decide +kernel
theorem dX1_doPlan_27 : decode cX1_doPlan 27 = .ok (.invokestatic 59, 3) := by decide +kernel
theorem dX1_doPlan_30 : decode cX1_doPlan 30 = .ok (.isub, 1) := by decide +kernel
theorem dX1_doPlan_31 : decode cX1_doPlan 31 = .ok (.iastore, 1) := by decide +kernel
theorem dX1_doPlan_32 : decode cX1_doPlan 32 = .ok (.iinc 2 1, 3) := by decide +kernel
theorem dX1_doPlan_35 : decode cX1_doPlan 35 = .ok (.goto (-33), 3) := by decide +kernel
theorem dX1_doPlan_38 : decode cX1_doPlan 38 = .ok (.iconst 0, 1) := by decide +kernel
theorem dX1_doPlan_39 : decode cX1_doPlan 39 = .ok (.istore_n 2, 1) := by decide +kernel
theorem dX1_doPlan_40 : decode cX1_doPlan 40 = .ok (.iload_n 2, 1) := by decide +kernel
theorem dX1_doPlan_41 : decode cX1_doPlan 41 = .ok (.aload_n 0, 1) := by decide +kernel
theorem dX1_doPlan_42 : decode cX1_doPlan 42 = .ok (.getfield 45, 3) := by decide +kernel
theorem dX1_doPlan_45 : decode cX1_doPlan 45 = .ok (.if_icmp .ge 26, 3) := by decide +kernel
theorem dX1_doPlan_48 : decode cX1_doPlan 48 = .ok (.aload_n 0, 1) := by decide +kernel
theorem dX1_doPlan_49 : decode cX1_doPlan 49 = .ok (.getfield 9, 3) := by decide +kernel
theorem dX1_doPlan_52 : decode cX1_doPlan 52 = .ok (.aload_n 0, 1) := by decide +kernel
theorem dX1_doPlan_53 : decode cX1_doPlan 53 = .ok (.getfield 18, 3) := by decide +kernel
theorem dX1_doPlan_56 : decode cX1_doPlan 56 = .ok (.iload_n 2, 1) := by decide +kernel
theorem dX1_doPlan_57 : decode cX1_doPlan 57 = .ok (.iaload, 1) := by decide +kernel
theorem dX1_doPlan_58 : decode cX1_doPlan 58 = .ok (.dup2, 1) := by decide +kernel
theorem dX1_doPlan_59 : decode cX1_doPlan 59 = .ok (.iaload, 1) := by decide +kernel
theorem dX1_doPlan_60 : decode cX1_doPlan 60 = .ok (.aload_n 1, 1) := by decide +kernel
theorem dX1_doPlan_61 : decode cX1_doPlan 61 = .ok (.iload_n 2, 1) := by decide +kernel
theorem dX1_doPlan_62 : decode cX1_doPlan 62 = .ok (.iaload, 1) := by decide +kernel
theorem dX1_doPlan_63 : decode cX1_doPlan 63 = .ok (.isub, 1) := by decide +kernel
theorem dX1_doPlan_64 : decode cX1_doPlan 64 = .ok (.iastore, 1) := by decide +kernel
theorem dX1_doPlan_65 : decode cX1_doPlan 65 = .ok (.iinc 2 1, 3) := by decide +kernel
theorem dX1_doPlan_68 : decode cX1_doPlan 68 = .ok (.goto (-28), 3) := by decide +kernel
theorem dX1_doPlan_71 : decode cX1_doPlan 71 = .ok (.return_, 1) := by decide +kernel
theorem dX2_forgetSearch_0 : decode cX2_forgetSearch 0 = .ok (.aload_n 0, 1) := by decide +kernel
theorem dX2_forgetSearch_1 : decode cX2_forgetSearch 1 = .ok (.iconst 0, 1) := by decide +kernel
theorem dX2_forgetSearch_2 : decode cX2_forgetSearch 2 = .ok (.putfield 86, 3) := by decide +kernel
theorem dX2_forgetSearch_5 : decode cX2_forgetSearch 5 = .ok (.aload_n 0, 1) := by decide +kernel
theorem dX2_forgetSearch_6 : decode cX2_forgetSearch 6 = .ok (.getfield 21, 3) := by decide +kernel
theorem dX2_forgetSearch_9 : decode cX2_forgetSearch 9 = .ok (.iconst 0, 1) := by decide +kernel
theorem dX2_forgetSearch_10 : decode cX2_forgetSearch 10 = .ok (.putfield 93, 3) := by decide +kernel
theorem dX2_forgetSearch_13 : decode cX2_forgetSearch 13 = .ok (.return_, 1) := by decide +kernel
theorem dX2_logs_0 : decode cX2_logs 0 = .ok (.iload_n 1, 1) := by decide +kernel
theorem dX2_logs_1 : decode cX2_logs 1 = .ok (.iconst 4, 1) := by decide +kernel
theorem dX2_logs_2 : decode cX2_logs 2 = .ok (.invokestatic 28, 3) := by decide +kernel
theorem dX2_logs_5 : decode cX2_logs 5 = .ok (.iload_n 2, 1) := by decide +kernel
theorem dX2_logs_6 : decode cX2_logs 6 = .ok (.iconst 0, 1) := by decide +kernel
theorem dX2_logs_7 : decode cX2_logs 7 = .ok (.sipush 1000, 3) := by decide +kernel
theorem dX2_logs_10 : decode cX2_logs 10 = .ok (.invokestatic 32, 3) := by decide +kernel
theorem dX2_logs_13 : decode cX2_logs 13 = .ok (.iload_n 3, 1) := by decide +kernel
theorem dX2_logs_14 : decode cX2_logs 14 = .ok (.iconst 0, 1) := by decide +kernel
theorem dX2_logs_15 : decode cX2_logs 15 = .ok (.ldc 36, 2) := by decide +kernel
theorem dX2_logs_17 : decode cX2_logs 17 = .ok (.invokestatic 32, 3) := by decide +kernel
theorem dX2_logs_20 : decode cX2_logs 20 = .ok (.aload_n 0, 1) := by decide +kernel
theorem dX2_logs_21 : decode cX2_logs 21 = .ok (.getfield 10, 3) := by decide +kernel
theorem dX2_logs_24 : decode cX2_logs 24 = .ok (.getfield 37, 3) := by decide +kernel
theorem dX2_logs_27 : decode cX2_logs 27 = .ok (.iload_n 1, 1) := by decide +kernel
theorem dX2_logs_28 : decode cX2_logs 28 = .ok (.iload_n 2, 1) := by decide +kernel
theorem dX2_logs_29 : decode cX2_logs 29 = .ok (.iastore, 1) := by decide +kernel
theorem dX2_logs_30 : decode cX2_logs 30 = .ok (.aload_n 0, 1) := by decide +kernel
theorem dX2_logs_31 : decode cX2_logs 31 = .ok (.getfield 10, 3) := by decide +kernel
theorem dX2_logs_34 : decode cX2_logs 34 = .ok (.getfield 41, 3) := by decide +kernel
theorem dX2_logs_37 : decode cX2_logs 37 = .ok (.iload_n 1, 1) := by decide +kernel
theorem dX2_logs_38 : decode cX2_logs 38 = .ok (.iload_n 3, 1) := by decide +kernel
theorem dX2_logs_39 : decode cX2_logs 39 = .ok (.iastore, 1) := by decide +kernel
theorem dX2_logs_40 : decode cX2_logs 40 = .ok (.aload_n 0, 1) := by decide +kernel
theorem dX2_logs_41 : decode cX2_logs 41 = .ok (.invokevirtual 44, 3) := by decide +kernel
theorem dX2_logs_44 : decode cX2_logs 44 = .ok (.return_, 1) := by decide +kernel
theorem dX2_order_0 : decode cX2_order 0 = .ok (.iload_n 1, 1) := by decide +kernel
theorem dX2_order_1 : decode cX2_order 1 = .ok (.iconst 4, 1) := by decide +kernel
theorem dX2_order_2 : decode cX2_order 2 = .ok (.invokestatic 28, 3) := by decide +kernel
theorem dX2_order_5 : decode cX2_order 5 = .ok (.iload_n 2, 1) := by decide +kernel
theorem dX2_order_6 : decode cX2_order 6 = .ok (.iconst 0, 1) := by decide +kernel
theorem dX2_order_7 : decode cX2_order 7 = .ok (.sipush 1000, 3) := by decide +kernel
theorem dX2_order_10 : decode cX2_order 10 = .ok (.invokestatic 32, 3) := by decide +kernel
theorem dX2_order_13 : decode cX2_order 13 = .ok (.iload_n 3, 1) := by decide +kernel
theorem dX2_order_14 : decode cX2_order 14 = .ok (.iload_n 2, 1) := by decide +kernel
theorem dX2_order_15 : decode cX2_order 15 = .ok (.sipush 1000, 3) := by decide +kernel
theorem dX2_order_18 : decode cX2_order 18 = .ok (.invokestatic 32, 3) := by decide +kernel
theorem dX2_order_21 : decode cX2_order 21 = .ok (.iload 4, 2) := by decide +kernel
theorem dX2_order_23 : decode cX2_order 23 = .ok (.iconst 0, 1) := by decide +kernel
theorem dX2_order_24 : decode cX2_order 24 = .ok (.sipush 1000, 3) := by decide +kernel
theorem dX2_order_27 : decode cX2_order 27 = .ok (.invokestatic 32, 3) := by decide +kernel
theorem dX2_order_30 : decode cX2_order 30 = .ok (.aload_n 0, 1) := by decide +kernel
theorem dX2_order_31 : decode cX2_order 31 = .ok (.getfield 10, 3) := by decide +kernel
theorem dX2_order_34 : decode cX2_order 34 = .ok (.getfield 68, 3) := by decide +kernel
theorem dX2_order_37 : decode cX2_order 37 = .ok (.iload_n 1, 1) := by decide +kernel
theorem dX2_order_38 : decode cX2_order 38 = .ok (.iload_n 2, 1) := by decide +kernel
theorem dX2_order_39 : decode cX2_order 39 = .ok (.iastore, 1) := by decide +kernel
theorem dX2_order_40 : decode cX2_order 40 = .ok (.aload_n 0, 1) := by decide +kernel
theorem dX2_order_41 : decode cX2_order 41 = .ok (.getfield 10, 3) := by decide +kernel
theorem dX2_order_44 : decode cX2_order 44 = .ok (.getfield 71, 3) := by decide +kernel
theorem dX2_order_47 : decode cX2_order 47 = .ok (.iload_n 1, 1) := by decide +kernel
theorem dX2_order_48 : decode cX2_order 48 = .ok (.iload_n 3, 1) := by decide +kernel
theorem dX2_order_49 : decode cX2_order 49 = .ok (.iastore, 1) := by decide +kernel
theorem dX2_order_50 : decode cX2_order 50 = .ok (.aload_n 0, 1) := by decide +kernel
theorem dX2_order_51 : decode cX2_order 51 = .ok (.getfield 10, 3) := by decide +kernel
theorem dX2_order_54 : decode cX2_order 54 = .ok (.getfield 74, 3) := by decide +kernel
theorem dX2_order_57 : decode cX2_order 57 = .ok (.iload_n 1, 1) := by decide +kernel
theorem dX2_order_58 : decode cX2_order 58 = .ok (.iload 4, 2) := by decide +kernel
theorem dX2_order_60 : decode cX2_order 60 = .ok (.iastore, 1) := by decide +kernel
theorem dX2_order_61 : decode cX2_order 61 = .ok (.aload_n 0, 1) := by decide +kernel
theorem dX2_order_62 : decode cX2_order 62 = .ok (.invokevirtual 44, 3) := by decide +kernel
theorem dX2_order_65 : decode cX2_order 65 = .ok (.return_, 1) := by decide +kernel
theorem dX2_hours_0 : decode cX2_hours 0 = .ok (.iload_n 1, 1) := by decide +kernel
theorem dX2_hours_1 : decode cX2_hours 1 = .ok (.iconst 0, 1) := by decide +kernel
theorem dX2_hours_2 : decode cX2_hours 2 = .ok (.sipush 1440, 3) := by decide +kernel
theorem dX2_hours_5 : decode cX2_hours 5 = .ok (.invokestatic 32, 3) := by decide +kernel
theorem dX2_hours_8 : decode cX2_hours 8 = .ok (.iload_n 2, 1) := by decide +kernel
theorem dX2_hours_9 : decode cX2_hours 9 = .ok (.iconst 0, 1) := by decide +kernel
theorem dX2_hours_10 : decode cX2_hours 10 = .ok (.sipush 1440, 3) := by decide +kernel
theorem dX2_hours_13 : decode cX2_hours 13 = .ok (.invokestatic 32, 3) := by decide +kernel
theorem dX2_hours_16 : decode cX2_hours 16 = .ok (.aload_n 0, 1) := by decide +kernel
theorem dX2_hours_17 : decode cX2_hours 17 = .ok (.getfield 10, 3) := by decide +kernel
theorem dX2_hours_20 : decode cX2_hours 20 = .ok (.iload_n 1, 1) := by decide +kernel
theorem dX2_hours_21 : decode cX2_hours 21 = .ok (.putfield 77, 3) := by decide +kernel
theorem dX2_hours_24 : decode cX2_hours 24 = .ok (.aload_n 0, 1) := by decide +kernel
theorem dX2_hours_25 : decode cX2_hours 25 = .ok (.getfield 10, 3) := by decide +kernel
theorem dX2_hours_28 : decode cX2_hours 28 = .ok (.iload_n 2, 1) := by decide +kernel
theorem dX2_hours_29 : decode cX2_hours 29 = .ok (.putfield 80, 3) := by decide +kernel
theorem dX2_hours_32 : decode cX2_hours 32 = .ok (.aload_n 0, 1) := by decide +kernel
theorem dX2_hours_33 : decode cX2_hours 33 = .ok (.invokevirtual 44, 3) := by decide +kernel
theorem dX2_hours_36 : decode cX2_hours 36 = .ok (.return_, 1) := by decide +kernel
theorem dX2_gives_0 : decode cX2_gives 0 = .ok (.iload_n 1, 1) := by decide +kernel
theorem dX2_gives_1 : decode cX2_gives 1 = .ok (.aload_n 0, 1) := by decide +kernel
theorem dX2_gives_2 : decode cX2_gives 2 = .ok (.getfield 10, 3) := by decide +kernel
theorem dX2_gives_5 : decode cX2_gives 5 = .ok (.getfield 47, 3) := by decide +kernel
theorem dX2_gives_8 : decode cX2_gives 8 = .ok (.invokestatic 28, 3) := by decide +kernel
theorem dX2_gives_11 : decode cX2_gives 11 = .ok (.iload_n 2, 1) := by decide +kernel
theorem dX2_gives_12 : decode cX2_gives 12 = .ok (.iconst 4, 1) := by decide +kernel
theorem dX2_gives_13 : decode cX2_gives 13 = .ok (.invokestatic 28, 3) := by decide +kernel
theorem dX2_gives_16 : decode cX2_gives 16 = .ok (.iload_n 3, 1) := by decide +kernel
theorem dX2_gives_17 : decode cX2_gives 17 = .ok (.iconst 0, 1) := by decide +kernel
theorem dX2_gives_18 : decode cX2_gives 18 = .ok (.bipush 9, 2) := by decide +kernel
theorem dX2_gives_20 : decode cX2_gives 20 = .ok (.invokestatic 32, 3) := by decide +kernel
theorem dX2_gives_23 : decode cX2_gives 23 = .ok (.aload_n 0, 1) := by decide +kernel
theorem dX2_gives_24 : decode cX2_gives 24 = .ok (.getfield 10, 3) := by decide +kernel
theorem dX2_gives_27 : decode cX2_gives 27 = .ok (.getfield 64, 3) := by decide +kernel
theorem dX2_gives_30 : decode cX2_gives 30 = .ok (.iload_n 1, 1) := by decide +kernel
theorem dX2_gives_31 : decode cX2_gives 31 = .ok (.aaload, 1) := by decide +kernel
theorem dX2_gives_32 : decode cX2_gives 32 = .ok (.iload_n 2, 1) := by decide +kernel
theorem dX2_gives_33 : decode cX2_gives 33 = .ok (.iload_n 3, 1) := by decide +kernel
theorem dX2_gives_34 : decode cX2_gives 34 = .ok (.iastore, 1) := by decide +kernel
theorem dX2_gives_35 : decode cX2_gives 35 = .ok (.aload_n 0, 1) := by decide +kernel
theorem dX2_gives_36 : decode cX2_gives 36 = .ok (.invokevirtual 44, 3) := by decide +kernel
theorem dX2_gives_39 : decode cX2_gives 39 = .ok (.return_, 1) := by decide +kernel
theorem dX2_pattern_0 : decode cX2_pattern 0 = .ok (.iload_n 1, 1) := by decide +kernel
theorem dX2_pattern_1 : decode cX2_pattern 1 = .ok (.iconst 4, 1) := by decide +kernel
theorem dX2_pattern_2 : decode cX2_pattern 2 = .ok (.invokestatic 28, 3) := by decide +kernel
theorem dX2_pattern_5 : decode cX2_pattern 5 = .ok (.iload_n 2, 1) := by decide +kernel
theorem dX2_pattern_6 : decode cX2_pattern 6 = .ok (.iconst 1, 1) := by decide +kernel
theorem dX2_pattern_7 : decode cX2_pattern 7 = .ok (.sipush 480, 3) := by decide +kernel
theorem dX2_pattern_10 : decode cX2_pattern 10 = .ok (.invokestatic 32, 3) := by decide +kernel
theorem dX2_pattern_13 : decode cX2_pattern 13 = .ok (.aload_n 0, 1) := by decide +kernel
theorem dX2_pattern_14 : decode cX2_pattern 14 = .ok (.getfield 10, 3) := by decide +kernel
theorem dX2_pattern_17 : decode cX2_pattern 17 = .ok (.getfield 47, 3) := by decide +kernel
theorem dX2_pattern_20 : decode cX2_pattern 20 = .ok (.istore_n 3, 1) := by decide +kernel
theorem dX2_pattern_21 : decode cX2_pattern 21 = .ok (.iload_n 3, 1) := by decide +kernel
theorem dX2_pattern_22 : decode cX2_pattern 22 = .ok (.bipush 6, 2) := by decide +kernel
theorem dX2_pattern_24 : decode cX2_pattern 24 = .ok (.if_icmp .lt 13, 3) := by decide +kernel
theorem dX2_pattern_27 : decode cX2_pattern 27 = .ok (.new 51, 3) := by decide +kernel
theorem dX2_pattern_30 : decode cX2_pattern 30 = .ok (.dup, 1) := by decide +kernel
theorem dX2_pattern_31 : decode cX2_pattern 31 = .ok (.ldc 53, 2) := by decide +kernel
theorem dX2_pattern_33 : decode cX2_pattern 33 = .ok (.invokespecial 55, 3) := by decide +kernel
theorem dX2_pattern_36 : decode cX2_pattern 36 = .ok (.athrow, 1) := by decide +kernel
theorem dX2_pattern_37 : decode cX2_pattern 37 = .ok (.aload_n 0, 1) := by decide +kernel
theorem dX2_pattern_38 : decode cX2_pattern 38 = .ok (.getfield 10, 3) := by decide +kernel
theorem dX2_pattern_41 : decode cX2_pattern 41 = .ok (.getfield 58, 3) := by decide +kernel
theorem dX2_pattern_44 : decode cX2_pattern 44 = .ok (.iload_n 3, 1) := by decide +kernel
theorem dX2_pattern_45 : decode cX2_pattern 45 = .ok (.iload_n 1, 1) := by decide +kernel
theorem dX2_pattern_46 : decode cX2_pattern 46 = .ok (.iastore, 1) := by decide +kernel
theorem dX2_pattern_47 : decode cX2_pattern 47 = .ok (.aload_n 0, 1) := by decide +kernel
theorem dX2_pattern_48 : decode cX2_pattern 48 = .ok (.getfield 10, 3) := by decide +kernel
theorem dX2_pattern_51 : decode cX2_pattern 51 = .ok (.getfield 61, 3) := by decide +kernel
theorem dX2_pattern_54 : decode cX2_pattern 54 = .ok (.iload_n 3, 1) := by decide +kernel
theorem dX2_pattern_55 : decode cX2_pattern 55 = .ok (.iload_n 2, 1) := by decide +kernel
theorem dX2_pattern_56 : decode cX2_pattern 56 = .ok (.iastore, 1) := by decide +kernel
theorem dX2_pattern_57 : decode cX2_pattern 57 = .ok (.aload_n 0, 1) := by decide +kernel
theorem dX2_pattern_58 : decode cX2_pattern 58 = .ok (.getfield 10, 3) := by decide +kernel
theorem dX2_pattern_61 : decode cX2_pattern 61 = .ok (.iload_n 3, 1) := by decide +kernel
theorem dX2_pattern_62 : decode cX2_pattern 62 = .ok (.iconst 1, 1) := by decide +kernel
theorem dX2_pattern_63 : decode cX2_pattern 63 = .ok (.iadd, 1) := by decide +kernel
theorem dX2_pattern_64 : decode cX2_pattern 64 = .ok (.putfield 47, 3) := by decide +kernel
theorem dX2_pattern_67 : decode cX2_pattern 67 = .ok (.aload_n 0, 1) := by decide +kernel
theorem dX2_pattern_68 : decode cX2_pattern 68 = .ok (.invokevirtual 44, 3) := by decide +kernel
theorem dX2_pattern_71 : decode cX2_pattern 71 = .ok (.iload_n 3, 1) := by decide +kernel
theorem dX2_pattern_72 : decode cX2_pattern 72 = .ok (.ireturn, 1) := by decide +kernel
theorem dX2_run_0 : decode cX2_run 0 = .ok (.iload_n 1, 1) := by decide +kernel
theorem dX2_run_1 : decode cX2_run 1 = .ok (.iconst 0, 1) := by decide +kernel
theorem dX2_run_2 : decode cX2_run 2 = .ok (.sipush 20000, 3) := by decide +kernel
theorem dX2_run_5 : decode cX2_run 5 = .ok (.invokestatic 32, 3) := by decide +kernel
theorem dX2_run_8 : decode cX2_run 8 = .ok (.aload_n 0, 1) := by decide +kernel
theorem dX2_run_9 : decode cX2_run 9 = .ok (.getfield 21, 3) := by decide +kernel
theorem dX2_run_12 : decode cX2_run 12 = .ok (.iload_n 1, 1) := by decide +kernel
theorem dX2_run_13 : decode cX2_run 13 = .ok (.iconst (-1), 1) := by decide +kernel
theorem dX2_run_14 : decode cX2_run 14 = .ok (.invokevirtual 83, 3) := by decide +kernel
theorem dX2_run_17 : decode cX2_run 17 = .ok (.aload_n 0, 1) := by decide +kernel
theorem dX2_run_18 : decode cX2_run 18 = .ok (.iconst 1, 1) := by decide +kernel
theorem dX2_run_19 : decode cX2_run 19 = .ok (.putfield 86, 3) := by decide +kernel
theorem dX2_run_22 : decode cX2_run 22 = .ok (.aload_n 0, 1) := by decide +kernel
theorem dX2_run_23 : decode cX2_run 23 = .ok (.getfield 21, 3) := by decide +kernel
theorem dX2_run_26 : decode cX2_run 26 = .ok (.getfield 90, 3) := by decide +kernel
theorem dX2_run_29 : decode cX2_run 29 = .ok (.ifCond .eq 5, 3) := by decide +kernel
theorem dX2_run_32 : decode cX2_run 32 = .ok (.iconst 2, 1) := by decide +kernel
theorem dX2_run_33 : decode cX2_run 33 = .ok (.ireturn, 1) := by decide +kernel
theorem dX2_run_34 : decode cX2_run 34 = .ok (.aload_n 0, 1) := by decide +kernel
theorem dX2_run_35 : decode cX2_run 35 = .ok (.getfield 21, 3) := by decide +kernel
theorem dX2_run_38 : decode cX2_run 38 = .ok (.getfield 93, 3) := by decide +kernel
theorem dX2_run_41 : decode cX2_run 41 = .ok (.ifCond .eq 7, 3) := by decide +kernel
theorem dX2_run_44 : decode cX2_run 44 = .ok (.iconst 0, 1) := by decide +kernel
theorem dX2_run_45 : decode cX2_run 45 = .ok (.goto 4, 3) := by decide +kernel
theorem dX2_run_48 : decode cX2_run 48 = .ok (.iconst 1, 1) := by decide +kernel
theorem dX2_run_49 : decode cX2_run 49 = .ok (.ireturn, 1) := by decide +kernel
theorem dX2_search_0 : decode cX2_search 0 = .ok (.iload_n 1, 1) := by decide +kernel
theorem dX2_search_1 : decode cX2_search 1 = .ok (.iconst 4, 1) := by decide +kernel
theorem dX2_search_2 : decode cX2_search 2 = .ok (.invokestatic 28, 3) := by decide +kernel
theorem dX2_search_5 : decode cX2_search 5 = .ok (.aload_n 0, 1) := by decide +kernel
theorem dX2_search_6 : decode cX2_search 6 = .ok (.getfield 86, 3) := by decide +kernel
theorem dX2_search_9 : decode cX2_search 9 = .ok (.ifCond .ne 13, 3) := by decide +kernel
theorem dX2_search_12 : decode cX2_search 12 = .ok (.new 51, 3) := by decide +kernel
theorem dX2_search_15 : decode cX2_search 15 = .ok (.dup, 1) := by decide +kernel
theorem dX2_search_16 : decode cX2_search 16 = .ok (.ldc 96, 2) := by decide +kernel
theorem dX2_search_18 : decode cX2_search 18 = .ok (.invokespecial 55, 3) := by decide +kernel
theorem dX2_search_21 : decode cX2_search 21 = .ok (.athrow, 1) := by decide +kernel
theorem dX2_search_22 : decode cX2_search 22 = .ok (.iload_n 1, 1) := by decide +kernel
theorem dX2_search_23 : decode cX2_search 23 = .ok (.tableswitch 65 0 2 #[25, 33, 49], 25) := by decide +kernel
theorem dX2_search_48 : decode cX2_search 48 = .ok (.aload_n 0, 1) := by decide +kernel
theorem dX2_search_49 : decode cX2_search 49 = .ok (.getfield 21, 3) := by decide +kernel
theorem dX2_search_52 : decode cX2_search 52 = .ok (.getfield 98, 3) := by decide +kernel
theorem dX2_search_55 : decode cX2_search 55 = .ok (.ireturn, 1) := by decide +kernel
theorem dX2_search_56 : decode cX2_search 56 = .ok (.aload_n 0, 1) := by decide +kernel
theorem dX2_search_57 : decode cX2_search 57 = .ok (.getfield 21, 3) := by decide +kernel
theorem dX2_search_60 : decode cX2_search 60 = .ok (.getfield 90, 3) := by decide +kernel
theorem dX2_search_63 : decode cX2_search 63 = .ok (.ifCond .eq 7, 3) := by decide +kernel
theorem dX2_search_66 : decode cX2_search 66 = .ok (.iconst 0, 1) := by decide +kernel
theorem dX2_search_67 : decode cX2_search 67 = .ok (.goto 4, 3) := by decide +kernel
theorem dX2_search_70 : decode cX2_search 70 = .ok (.iconst 1, 1) := by decide +kernel
theorem dX2_search_71 : decode cX2_search 71 = .ok (.ireturn, 1) := by decide +kernel
theorem dX2_search_72 : decode cX2_search 72 = .ok (.aload_n 0, 1) := by decide +kernel
theorem dX2_search_73 : decode cX2_search 73 = .ok (.getfield 21, 3) := by decide +kernel
theorem dX2_search_76 : decode cX2_search 76 = .ok (.getfield 93, 3) := by decide +kernel
theorem dX2_search_79 : decode cX2_search 79 = .ok (.ifCond .eq 7, 3) := by decide +kernel
theorem dX2_search_82 : decode cX2_search 82 = .ok (.iconst 1, 1) := by decide +kernel
theorem dX2_search_83 : decode cX2_search 83 = .ok (.goto 4, 3) := by decide +kernel
theorem dX2_search_86 : decode cX2_search 86 = .ok (.iconst 0, 1) := by decide +kernel
theorem dX2_search_87 : decode cX2_search 87 = .ok (.ireturn, 1) := by decide +kernel
theorem dX2_search_88 : decode cX2_search 88 = .ok (.aload_n 0, 1) := by decide +kernel
theorem dX2_search_89 : decode cX2_search 89 = .ok (.getfield 10, 3) := by decide +kernel
theorem dX2_search_92 : decode cX2_search 92 = .ok (.invokevirtual 101, 3) := by decide +kernel
theorem dX2_search_95 : decode cX2_search 95 = .ok (.ireturn, 1) := by decide +kernel
theorem dX2_used_0 : decode cX2_used 0 = .ok (.iload_n 1, 1) := by decide +kernel
theorem dX2_used_1 : decode cX2_used 1 = .ok (.aload_n 0, 1) := by decide +kernel
theorem dX2_used_2 : decode cX2_used 2 = .ok (.getfield 10, 3) := by decide +kernel
theorem dX2_used_5 : decode cX2_used 5 = .ok (.getfield 47, 3) := by decide +kernel
theorem dX2_used_8 : decode cX2_used 8 = .ok (.invokestatic 28, 3) := by decide +kernel
theorem dX2_used_11 : decode cX2_used 11 = .ok (.aload_n 0, 1) := by decide +kernel
theorem dX2_used_12 : decode cX2_used 12 = .ok (.getfield 21, 3) := by decide +kernel
theorem dX2_used_15 : decode cX2_used 15 = .ok (.invokestatic 105, 3) := by decide +kernel
theorem dX2_used_18 : decode cX2_used 18 = .ok (.aload_n 0, 1) := by decide +kernel
theorem dX2_used_19 : decode cX2_used 19 = .ok (.getfield 21, 3) := by decide +kernel
theorem dX2_used_22 : decode cX2_used 22 = .ok (.getfield 109, 3) := by decide +kernel
theorem dX2_used_25 : decode cX2_used 25 = .ok (.iload_n 1, 1) := by decide +kernel
theorem dX2_used_26 : decode cX2_used 26 = .ok (.iaload, 1) := by decide +kernel
theorem dX2_used_27 : decode cX2_used 27 = .ok (.ireturn, 1) := by decide +kernel
theorem dX2_best_0 : decode cX2_best 0 = .ok (.iload_n 1, 1) := by decide +kernel
theorem dX2_best_1 : decode cX2_best 1 = .ok (.iconst 3, 1) := by decide +kernel
theorem dX2_best_2 : decode cX2_best 2 = .ok (.invokestatic 28, 3) := by decide +kernel
theorem dX2_best_5 : decode cX2_best 5 = .ok (.aload_n 0, 1) := by decide +kernel
theorem dX2_best_6 : decode cX2_best 6 = .ok (.getfield 21, 3) := by decide +kernel
theorem dX2_best_9 : decode cX2_best 9 = .ok (.invokestatic 105, 3) := by decide +kernel
theorem dX2_best_12 : decode cX2_best 12 = .ok (.iload_n 1, 1) := by decide +kernel
theorem dX2_best_13 : decode cX2_best 13 = .ok (.lookupswitch 50 #[(0, 27), (1, 35)], 27) := by decide +kernel
theorem dX2_best_40 : decode cX2_best 40 = .ok (.aload_n 0, 1) := by decide +kernel
theorem dX2_best_41 : decode cX2_best 41 = .ok (.getfield 21, 3) := by decide +kernel
theorem dX2_best_44 : decode cX2_best 44 = .ok (.getfield 112, 3) := by decide +kernel
theorem dX2_best_47 : decode cX2_best 47 = .ok (.ireturn, 1) := by decide +kernel
theorem dX2_best_48 : decode cX2_best 48 = .ok (.aload_n 0, 1) := by decide +kernel
theorem dX2_best_49 : decode cX2_best 49 = .ok (.getfield 10, 3) := by decide +kernel
theorem dX2_best_52 : decode cX2_best 52 = .ok (.aload_n 0, 1) := by decide +kernel
theorem dX2_best_53 : decode cX2_best 53 = .ok (.getfield 21, 3) := by decide +kernel
theorem dX2_best_56 : decode cX2_best 56 = .ok (.getfield 109, 3) := by decide +kernel
theorem dX2_best_59 : decode cX2_best 59 = .ok (.invokevirtual 115, 3) := by decide +kernel
theorem dX2_best_62 : decode cX2_best 62 = .ok (.ireturn, 1) := by decide +kernel
theorem dX2_best_63 : decode cX2_best 63 = .ok (.aload_n 0, 1) := by decide +kernel
theorem dX2_best_64 : decode cX2_best 64 = .ok (.getfield 10, 3) := by decide +kernel
theorem dX2_best_67 : decode cX2_best 67 = .ok (.aload_n 0, 1) := by decide +kernel
theorem dX2_best_68 : decode cX2_best 68 = .ok (.getfield 21, 3) := by decide +kernel
theorem dX2_best_71 : decode cX2_best 71 = .ok (.getfield 109, 3) := by decide +kernel
theorem dX2_best_74 : decode cX2_best 74 = .ok (.invokevirtual 119, 3) := by decide +kernel
theorem dX2_best_77 : decode cX2_best 77 = .ok (.ireturn, 1) := by decide +kernel
theorem dX2_made_0 : decode cX2_made 0 = .ok (.iload_n 1, 1) := by decide +kernel
theorem dX2_made_1 : decode cX2_made 1 = .ok (.iconst 4, 1) := by decide +kernel
theorem dX2_made_2 : decode cX2_made 2 = .ok (.invokestatic 28, 3) := by decide +kernel
theorem dX2_made_5 : decode cX2_made 5 = .ok (.aload_n 0, 1) := by decide +kernel
theorem dX2_made_6 : decode cX2_made 6 = .ok (.getfield 21, 3) := by decide +kernel
theorem dX2_made_9 : decode cX2_made 9 = .ok (.invokestatic 105, 3) := by decide +kernel
theorem dX2_made_12 : decode cX2_made 12 = .ok (.aload_n 0, 1) := by decide +kernel
theorem dX2_made_13 : decode cX2_made 13 = .ok (.getfield 10, 3) := by decide +kernel
theorem dX2_made_16 : decode cX2_made 16 = .ok (.aload_n 0, 1) := by decide +kernel
theorem dX2_made_17 : decode cX2_made 17 = .ok (.getfield 21, 3) := by decide +kernel
theorem dX2_made_20 : decode cX2_made 20 = .ok (.getfield 109, 3) := by decide +kernel
theorem dX2_made_23 : decode cX2_made 23 = .ok (.iload_n 1, 1) := by decide +kernel
theorem dX2_made_24 : decode cX2_made 24 = .ok (.invokevirtual 122, 3) := by decide +kernel
theorem dX2_made_27 : decode cX2_made 27 = .ok (.ireturn, 1) := by decide +kernel
theorem dX2_saw_0 : decode cX2_saw 0 = .ok (.aload_n 0, 1) := by decide +kernel
theorem dX2_saw_1 : decode cX2_saw 1 = .ok (.getfield 21, 3) := by decide +kernel
theorem dX2_saw_4 : decode cX2_saw 4 = .ok (.invokestatic 105, 3) := by decide +kernel
theorem dX2_saw_7 : decode cX2_saw 7 = .ok (.aload_n 0, 1) := by decide +kernel
theorem dX2_saw_8 : decode cX2_saw 8 = .ok (.getfield 21, 3) := by decide +kernel
theorem dX2_saw_11 : decode cX2_saw 11 = .ok (.getfield 112, 3) := by decide +kernel
theorem dX2_saw_14 : decode cX2_saw 14 = .ok (.istore_n 1, 1) := by decide +kernel
theorem dX2_saw_15 : decode cX2_saw 15 = .ok (.aload_n 0, 1) := by decide +kernel
theorem dX2_saw_16 : decode cX2_saw 16 = .ok (.getfield 10, 3) := by decide +kernel
theorem dX2_saw_19 : decode cX2_saw 19 = .ok (.aload_n 0, 1) := by decide +kernel
theorem dX2_saw_20 : decode cX2_saw 20 = .ok (.getfield 21, 3) := by decide +kernel
theorem dX2_saw_23 : decode cX2_saw 23 = .ok (.getfield 109, 3) := by decide +kernel
theorem dX2_saw_26 : decode cX2_saw 26 = .ok (.invokevirtual 126, 3) := by decide +kernel
theorem dX2_saw_29 : decode cX2_saw 29 = .ok (.aload_n 0, 1) := by decide +kernel
theorem dX2_saw_30 : decode cX2_saw 30 = .ok (.dup, 1) := by decide +kernel
theorem dX2_saw_31 : decode cX2_saw 31 = .ok (.getfield 130, 3) := by decide +kernel
theorem dX2_saw_34 : decode cX2_saw 34 = .ok (.iload_n 1, 1) := by decide +kernel
theorem dX2_saw_35 : decode cX2_saw 35 = .ok (.iadd, 1) := by decide +kernel
theorem dX2_saw_36 : decode cX2_saw 36 = .ok (.putfield 130, 3) := by decide +kernel
theorem dX2_saw_39 : decode cX2_saw 39 = .ok (.aload_n 0, 1) := by decide +kernel
theorem dX2_saw_40 : decode cX2_saw 40 = .ok (.dup, 1) := by decide +kernel
theorem dX2_saw_41 : decode cX2_saw 41 = .ok (.getfield 133, 3) := by decide +kernel
theorem dX2_saw_44 : decode cX2_saw 44 = .ok (.iconst 1, 1) := by decide +kernel
theorem dX2_saw_45 : decode cX2_saw 45 = .ok (.iadd, 1) := by decide +kernel
theorem dX2_saw_46 : decode cX2_saw 46 = .ok (.putfield 133, 3) := by decide +kernel
theorem dX2_saw_49 : decode cX2_saw 49 = .ok (.aload_n 0, 1) := by decide +kernel
theorem dX2_saw_50 : decode cX2_saw 50 = .ok (.getfield 21, 3) := by decide +kernel
theorem dX2_saw_53 : decode cX2_saw 53 = .ok (.iconst 0, 1) := by decide +kernel
theorem dX2_saw_54 : decode cX2_saw 54 = .ok (.putfield 93, 3) := by decide +kernel
theorem dX2_saw_57 : decode cX2_saw 57 = .ok (.iload_n 1, 1) := by decide +kernel
theorem dX2_saw_58 : decode cX2_saw 58 = .ok (.ireturn, 1) := by decide +kernel
theorem dX2_mill_0 : decode cX2_mill 0 = .ok (.iload_n 1, 1) := by decide +kernel
theorem dX2_mill_1 : decode cX2_mill 1 = .ok (.bipush 6, 2) := by decide +kernel
theorem dX2_mill_3 : decode cX2_mill 3 = .ok (.invokestatic 28, 3) := by decide +kernel
theorem dX2_mill_6 : decode cX2_mill 6 = .ok (.iload_n 1, 1) := by decide +kernel
theorem dX2_mill_7 : decode cX2_mill 7 = .ok (.lookupswitch 35 #[(0, 25), (1, 30)], 25) := by decide +kernel
theorem dX2_mill_32 : decode cX2_mill 32 = .ok (.aload_n 0, 1) := by decide +kernel
theorem dX2_mill_33 : decode cX2_mill 33 = .ok (.getfield 133, 3) := by decide +kernel
theorem dX2_mill_36 : decode cX2_mill 36 = .ok (.ireturn, 1) := by decide +kernel
theorem dX2_mill_37 : decode cX2_mill 37 = .ok (.aload_n 0, 1) := by decide +kernel
theorem dX2_mill_38 : decode cX2_mill 38 = .ok (.getfield 130, 3) := by decide +kernel
theorem dX2_mill_41 : decode cX2_mill 41 = .ok (.ireturn, 1) := by decide +kernel
theorem dX2_mill_42 : decode cX2_mill 42 = .ok (.aload_n 0, 1) := by decide +kernel
theorem dX2_mill_43 : decode cX2_mill 43 = .ok (.getfield 10, 3) := by decide +kernel
theorem dX2_mill_46 : decode cX2_mill 46 = .ok (.getfield 136, 3) := by decide +kernel
theorem dX2_mill_49 : decode cX2_mill 49 = .ok (.iload_n 1, 1) := by decide +kernel
theorem dX2_mill_50 : decode cX2_mill 50 = .ok (.iconst 2, 1) := by decide +kernel
theorem dX2_mill_51 : decode cX2_mill 51 = .ok (.isub, 1) := by decide +kernel
theorem dX2_mill_52 : decode cX2_mill 52 = .ok (.iaload, 1) := by decide +kernel
theorem dX2_mill_53 : decode cX2_mill 53 = .ok (.ireturn, 1) := by decide +kernel
theorem dX2_gainOfTrial_0 : decode cX2_gainOfTrial 0 = .ok (.aload_n 0, 1) := by decide +kernel
theorem dX2_gainOfTrial_1 : decode cX2_gainOfTrial 1 = .ok (.getfield 25, 3) := by decide +kernel
theorem dX2_gainOfTrial_4 : decode cX2_gainOfTrial 4 = .ok (.iload_n 1, 1) := by decide +kernel
theorem dX2_gainOfTrial_5 : decode cX2_gainOfTrial 5 = .ok (.iload_n 2, 1) := by decide +kernel
theorem dX2_gainOfTrial_6 : decode cX2_gainOfTrial 6 = .ok (.invokevirtual 83, 3) := by decide +kernel
theorem dX2_gainOfTrial_9 : decode cX2_gainOfTrial 9 = .ok (.aload_n 0, 1) := by decide +kernel
theorem dX2_gainOfTrial_10 : decode cX2_gainOfTrial 10 = .ok (.getfield 25, 3) := by decide +kernel
theorem dX2_gainOfTrial_13 : decode cX2_gainOfTrial 13 = .ok (.invokestatic 105, 3) := by decide +kernel
theorem dX2_gainOfTrial_16 : decode cX2_gainOfTrial 16 = .ok (.aload_n 0, 1) := by decide +kernel
theorem dX2_gainOfTrial_17 : decode cX2_gainOfTrial 17 = .ok (.getfield 25, 3) := by decide +kernel
theorem dX2_gainOfTrial_20 : decode cX2_gainOfTrial 20 = .ok (.getfield 112, 3) := by decide +kernel
theorem dX2_gainOfTrial_23 : decode cX2_gainOfTrial 23 = .ok (.ireturn, 1) := by decide +kernel
theorem dX2_cost_0 : decode cX2_cost 0 = .ok (.iload_n 1, 1) := by decide +kernel
theorem dX2_cost_1 : decode cX2_cost 1 = .ok (.iconst 4, 1) := by decide +kernel
theorem dX2_cost_2 : decode cX2_cost 2 = .ok (.invokestatic 28, 3) := by decide +kernel
theorem dX2_cost_5 : decode cX2_cost 5 = .ok (.iload_n 2, 1) := by decide +kernel
theorem dX2_cost_6 : decode cX2_cost 6 = .ok (.iconst 0, 1) := by decide +kernel
theorem dX2_cost_7 : decode cX2_cost 7 = .ok (.sipush 20000, 3) := by decide +kernel
theorem dX2_cost_10 : decode cX2_cost 10 = .ok (.invokestatic 32, 3) := by decide +kernel
theorem dX2_cost_13 : decode cX2_cost 13 = .ok (.aload_n 0, 1) := by decide +kernel
theorem dX2_cost_14 : decode cX2_cost 14 = .ok (.iload_n 2, 1) := by decide +kernel
theorem dX2_cost_15 : decode cX2_cost 15 = .ok (.iconst (-1), 1) := by decide +kernel
theorem dX2_cost_16 : decode cX2_cost 16 = .ok (.invokevirtual 139, 3) := by decide +kernel
theorem dX2_cost_19 : decode cX2_cost 19 = .ok (.istore_n 3, 1) := by decide +kernel
theorem dX2_cost_20 : decode cX2_cost 20 = .ok (.aload_n 0, 1) := by decide +kernel
theorem dX2_cost_21 : decode cX2_cost 21 = .ok (.iload_n 2, 1) := by decide +kernel
theorem dX2_cost_22 : decode cX2_cost 22 = .ok (.iload_n 1, 1) := by decide +kernel
theorem dX2_cost_23 : decode cX2_cost 23 = .ok (.invokevirtual 139, 3) := by decide +kernel
theorem dX2_cost_26 : decode cX2_cost 26 = .ok (.istore 4, 2) := by decide +kernel
theorem dX2_cost_28 : decode cX2_cost 28 = .ok (.iload_n 3, 1) := by decide +kernel
theorem dX2_cost_29 : decode cX2_cost 29 = .ok (.iload 4, 2) := by decide +kernel
theorem dX2_cost_31 : decode cX2_cost 31 = .ok (.isub, 1) := by decide +kernel
theorem dX2_cost_32 : decode cX2_cost 32 = .ok (.ireturn, 1) := by decide +kernel
theorem dX3_isIn_0 : decode cX3_isIn 0 = .ok (.iload_n 0, 1) := by decide +kernel
theorem dX3_isIn_1 : decode cX3_isIn 1 = .ok (.iload_n 1, 1) := by decide +kernel
theorem dX3_isIn_2 : decode cX3_isIn 2 = .ok (.if_icmp .lt 12, 3) := by decide +kernel
theorem dX3_isIn_5 : decode cX3_isIn 5 = .ok (.iload_n 0, 1) := by decide +kernel
theorem dX3_isIn_6 : decode cX3_isIn 6 = .ok (.iload_n 2, 1) := by decide +kernel
theorem dX3_isIn_7 : decode cX3_isIn 7 = .ok (.if_icmp .gt 7, 3) := by decide +kernel
theorem dX3_isIn_10 : decode cX3_isIn 10 = .ok (.iconst 1, 1) := by decide +kernel
theorem dX3_isIn_11 : decode cX3_isIn 11 = .ok (.goto 4, 3) := by decide +kernel
theorem dX3_isIn_14 : decode cX3_isIn 14 = .ok (.iconst 0, 1) := by decide +kernel
theorem dX3_isIn_15 : decode cX3_isIn 15 = .ok (.ireturn, 1) := by decide +kernel
theorem dX3_thrown_0 : decode cX3_thrown 0 = .ok (.aload_n 0, 1) := by decide +kernel
theorem dX3_thrown_1 : decode cX3_thrown 1 = .ok (.getfield 50, 3) := by decide +kernel
theorem dX3_thrown_4 : decode cX3_thrown 4 = .ok (.ireturn, 1) := by decide +kernel
theorem dX3_forget_0 : decode cX3_forget 0 = .ok (.aload_n 0, 1) := by decide +kernel
theorem dX3_forget_1 : decode cX3_forget 1 = .ok (.iconst 0, 1) := by decide +kernel
theorem dX3_forget_2 : decode cX3_forget 2 = .ok (.putfield 53, 3) := by decide +kernel
theorem dX3_forget_5 : decode cX3_forget 5 = .ok (.aload_n 0, 1) := by decide +kernel
theorem dX3_forget_6 : decode cX3_forget 6 = .ok (.iconst 0, 1) := by decide +kernel
theorem dX3_forget_7 : decode cX3_forget 7 = .ok (.putfield 57, 3) := by decide +kernel
theorem dX3_forget_10 : decode cX3_forget 10 = .ok (.return_, 1) := by decide +kernel
theorem dX3_logs_0 : decode cX3_logs 0 = .ok (.aload_n 0, 1) := by decide +kernel
theorem dX3_logs_1 : decode cX3_logs 1 = .ok (.iload_n 1, 1) := by decide +kernel
theorem dX3_logs_2 : decode cX3_logs 2 = .ok (.iconst 0, 1) := by decide +kernel
theorem dX3_logs_3 : decode cX3_logs 3 = .ok (.iconst 3, 1) := by decide +kernel
theorem dX3_logs_4 : decode cX3_logs 4 = .ok (.invokestatic 60, 3) := by decide +kernel
theorem dX3_logs_7 : decode cX3_logs 7 = .ok (.ifCond .ne 7, 3) := by decide +kernel
theorem dX3_logs_10 : decode cX3_logs 10 = .ok (.iconst 1, 1) := by decide +kernel
theorem dX3_logs_11 : decode cX3_logs 11 = .ok (.goto 29, 3) := by decide +kernel
theorem dX3_logs_14 : decode cX3_logs 14 = .ok (.iload_n 2, 1) := by decide +kernel
theorem dX3_logs_15 : decode cX3_logs 15 = .ok (.iconst 0, 1) := by decide +kernel
theorem dX3_logs_16 : decode cX3_logs 16 = .ok (.sipush 1000, 3) := by decide +kernel
theorem dX3_logs_19 : decode cX3_logs 19 = .ok (.invokestatic 60, 3) := by decide +kernel
theorem dX3_logs_22 : decode cX3_logs 22 = .ok (.ifCond .eq 13, 3) := by decide +kernel
theorem dX3_logs_25 : decode cX3_logs 25 = .ok (.iload_n 3, 1) := by decide +kernel
theorem dX3_logs_26 : decode cX3_logs 26 = .ok (.iconst 0, 1) := by decide +kernel
theorem dX3_logs_27 : decode cX3_logs 27 = .ok (.ldc 64, 2) := by decide +kernel
theorem dX3_logs_29 : decode cX3_logs 29 = .ok (.invokestatic 60, 3) := by decide +kernel
theorem dX3_logs_32 : decode cX3_logs 32 = .ok (.ifCond .ne 7, 3) := by decide +kernel
theorem dX3_logs_35 : decode cX3_logs 35 = .ok (.iconst 2, 1) := by decide +kernel
theorem dX3_logs_36 : decode cX3_logs 36 = .ok (.goto 4, 3) := by decide +kernel
theorem dX3_logs_39 : decode cX3_logs 39 = .ok (.iconst 0, 1) := by decide +kernel
theorem dX3_logs_40 : decode cX3_logs 40 = .ok (.putfield 50, 3) := by decide +kernel
theorem dX3_logs_43 : decode cX3_logs 43 = .ok (.aload_n 0, 1) := by decide +kernel
theorem dX3_logs_44 : decode cX3_logs 44 = .ok (.getfield 50, 3) := by decide +kernel
theorem dX3_logs_47 : decode cX3_logs 47 = .ok (.ifCond .ne 21, 3) := by decide +kernel
theorem dX3_logs_50 : decode cX3_logs 50 = .ok (.aload_n 0, 1) := by decide +kernel
theorem dX3_logs_51 : decode cX3_logs 51 = .ok (.getfield 7, 3) := by decide +kernel
theorem dX3_logs_54 : decode cX3_logs 54 = .ok (.iload_n 1, 1) := by decide +kernel
theorem dX3_logs_55 : decode cX3_logs 55 = .ok (.iload_n 2, 1) := by decide +kernel
theorem dX3_logs_56 : decode cX3_logs 56 = .ok (.iastore, 1) := by decide +kernel
theorem dX3_logs_57 : decode cX3_logs 57 = .ok (.aload_n 0, 1) := by decide +kernel
theorem dX3_logs_58 : decode cX3_logs 58 = .ok (.getfield 13, 3) := by decide +kernel
theorem dX3_logs_61 : decode cX3_logs 61 = .ok (.iload_n 1, 1) := by decide +kernel
theorem dX3_logs_62 : decode cX3_logs 62 = .ok (.iload_n 3, 1) := by decide +kernel
theorem dX3_logs_63 : decode cX3_logs 63 = .ok (.iastore, 1) := by decide +kernel
theorem dX3_logs_64 : decode cX3_logs 64 = .ok (.aload_n 0, 1) := by decide +kernel
theorem dX3_logs_65 : decode cX3_logs 65 = .ok (.invokevirtual 65, 3) := by decide +kernel
theorem dX3_logs_68 : decode cX3_logs 68 = .ok (.return_, 1) := by decide +kernel
theorem dX3_order_0 : decode cX3_order 0 = .ok (.aload_n 0, 1) := by decide +kernel
theorem dX3_order_1 : decode cX3_order 1 = .ok (.iload_n 1, 1) := by decide +kernel
theorem dX3_order_2 : decode cX3_order 2 = .ok (.iconst 0, 1) := by decide +kernel
theorem dX3_order_3 : decode cX3_order 3 = .ok (.iconst 3, 1) := by decide +kernel
theorem dX3_order_4 : decode cX3_order 4 = .ok (.invokestatic 60, 3) := by decide +kernel
theorem dX3_order_7 : decode cX3_order 7 = .ok (.ifCond .ne 7, 3) := by decide +kernel
theorem dX3_order_10 : decode cX3_order 10 = .ok (.iconst 1, 1) := by decide +kernel
theorem dX3_order_11 : decode cX3_order 11 = .ok (.goto 42, 3) := by decide +kernel
theorem dX3_order_14 : decode cX3_order 14 = .ok (.iload_n 2, 1) := by decide +kernel
theorem dX3_order_15 : decode cX3_order 15 = .ok (.iconst 0, 1) := by decide +kernel
theorem dX3_order_16 : decode cX3_order 16 = .ok (.sipush 1000, 3) := by decide +kernel
theorem dX3_order_19 : decode cX3_order 19 = .ok (.invokestatic 60, 3) := by decide +kernel
theorem dX3_order_22 : decode cX3_order 22 = .ok (.ifCond .eq 26, 3) := by decide +kernel
theorem dX3_order_25 : decode cX3_order 25 = .ok (.iload_n 3, 1) := by decide +kernel
theorem dX3_order_26 : decode cX3_order 26 = .ok (.iload_n 2, 1) := by decide +kernel
theorem dX3_order_27 : decode cX3_order 27 = .ok (.sipush 1000, 3) := by decide +kernel
theorem dX3_order_30 : decode cX3_order 30 = .ok (.invokestatic 60, 3) := by decide +kernel
theorem dX3_order_33 : decode cX3_order 33 = .ok (.ifCond .eq 15, 3) := by decide +kernel
theorem dX3_order_36 : decode cX3_order 36 = .ok (.iload 4, 2) := by decide +kernel
theorem dX3_order_38 : decode cX3_order 38 = .ok (.iconst 0, 1) := by decide +kernel
theorem dX3_order_39 : decode cX3_order 39 = .ok (.sipush 1000, 3) := by decide +kernel
theorem dX3_order_42 : decode cX3_order 42 = .ok (.invokestatic 60, 3) := by decide +kernel
theorem dX3_order_45 : decode cX3_order 45 = .ok (.ifCond .ne 7, 3) := by decide +kernel
theorem dX3_order_48 : decode cX3_order 48 = .ok (.iconst 2, 1) := by decide +kernel
theorem dX3_order_49 : decode cX3_order 49 = .ok (.goto 4, 3) := by decide +kernel
theorem dX3_order_52 : decode cX3_order 52 = .ok (.iconst 0, 1) := by decide +kernel
theorem dX3_order_53 : decode cX3_order 53 = .ok (.putfield 50, 3) := by decide +kernel
theorem dX3_order_56 : decode cX3_order 56 = .ok (.aload_n 0, 1) := by decide +kernel
theorem dX3_order_57 : decode cX3_order 57 = .ok (.getfield 50, 3) := by decide +kernel
theorem dX3_order_60 : decode cX3_order 60 = .ok (.ifCond .ne 29, 3) := by decide +kernel
theorem dX3_order_63 : decode cX3_order 63 = .ok (.aload_n 0, 1) := by decide +kernel
theorem dX3_order_64 : decode cX3_order 64 = .ok (.getfield 25, 3) := by decide +kernel
theorem dX3_order_67 : decode cX3_order 67 = .ok (.iload_n 1, 1) := by decide +kernel
theorem dX3_order_68 : decode cX3_order 68 = .ok (.iload_n 2, 1) := by decide +kernel
theorem dX3_order_69 : decode cX3_order 69 = .ok (.iastore, 1) := by decide +kernel
theorem dX3_order_70 : decode cX3_order 70 = .ok (.aload_n 0, 1) := by decide +kernel
theorem dX3_order_71 : decode cX3_order 71 = .ok (.getfield 28, 3) := by decide +kernel
theorem dX3_order_74 : decode cX3_order 74 = .ok (.iload_n 1, 1) := by decide +kernel
theorem dX3_order_75 : decode cX3_order 75 = .ok (.iload_n 3, 1) := by decide +kernel
theorem dX3_order_76 : decode cX3_order 76 = .ok (.iastore, 1) := by decide +kernel
theorem dX3_order_77 : decode cX3_order 77 = .ok (.aload_n 0, 1) := by decide +kernel
theorem dX3_order_78 : decode cX3_order 78 = .ok (.getfield 31, 3) := by decide +kernel
theorem dX3_order_81 : decode cX3_order 81 = .ok (.iload_n 1, 1) := by decide +kernel
theorem dX3_order_82 : decode cX3_order 82 = .ok (.iload 4, 2) := by decide +kernel
theorem dX3_order_84 : decode cX3_order 84 = .ok (.iastore, 1) := by decide +kernel
theorem dX3_order_85 : decode cX3_order 85 = .ok (.aload_n 0, 1) := by decide +kernel
theorem dX3_order_86 : decode cX3_order 86 = .ok (.invokevirtual 65, 3) := by decide +kernel
theorem dX3_order_89 : decode cX3_order 89 = .ok (.return_, 1) := by decide +kernel
theorem dX3_hours_0 : decode cX3_hours 0 = .ok (.aload_n 0, 1) := by decide +kernel
theorem dX3_hours_1 : decode cX3_hours 1 = .ok (.iload_n 1, 1) := by decide +kernel
theorem dX3_hours_2 : decode cX3_hours 2 = .ok (.iconst 0, 1) := by decide +kernel
theorem dX3_hours_3 : decode cX3_hours 3 = .ok (.sipush 1440, 3) := by decide +kernel
theorem dX3_hours_6 : decode cX3_hours 6 = .ok (.invokestatic 60, 3) := by decide +kernel
theorem dX3_hours_9 : decode cX3_hours 9 = .ok (.ifCond .eq 18, 3) := by decide +kernel
theorem dX3_hours_12 : decode cX3_hours 12 = .ok (.iload_n 2, 1) := by decide +kernel
theorem dX3_hours_13 : decode cX3_hours 13 = .ok (.iconst 0, 1) := by decide +kernel
theorem dX3_hours_14 : decode cX3_hours 14 = .ok (.sipush 1440, 3) := by decide +kernel
theorem dX3_hours_17 : decode cX3_hours 17 = .ok (.invokestatic 60, 3) := by decide +kernel
theorem dX3_hours_20 : decode cX3_hours 20 = .ok (.ifCond .eq 7, 3) := by decide +kernel
theorem dX3_hours_23 : decode cX3_hours 23 = .ok (.iconst 0, 1) := by decide +kernel
theorem dX3_hours_24 : decode cX3_hours 24 = .ok (.goto 4, 3) := by decide +kernel
theorem dX3_hours_27 : decode cX3_hours 27 = .ok (.iconst 1, 1) := by decide +kernel
theorem dX3_hours_28 : decode cX3_hours 28 = .ok (.putfield 50, 3) := by decide +kernel
theorem dX3_hours_31 : decode cX3_hours 31 = .ok (.aload_n 0, 1) := by decide +kernel
theorem dX3_hours_32 : decode cX3_hours 32 = .ok (.getfield 50, 3) := by decide +kernel
theorem dX3_hours_35 : decode cX3_hours 35 = .ok (.ifCond .ne 17, 3) := by decide +kernel
theorem dX3_hours_38 : decode cX3_hours 38 = .ok (.aload_n 0, 1) := by decide +kernel
theorem dX3_hours_39 : decode cX3_hours 39 = .ok (.iload_n 1, 1) := by decide +kernel
theorem dX3_hours_40 : decode cX3_hours 40 = .ok (.putfield 37, 3) := by decide +kernel
theorem dX3_hours_43 : decode cX3_hours 43 = .ok (.aload_n 0, 1) := by decide +kernel
theorem dX3_hours_44 : decode cX3_hours 44 = .ok (.iload_n 2, 1) := by decide +kernel
theorem dX3_hours_45 : decode cX3_hours 45 = .ok (.putfield 75, 3) := by decide +kernel
theorem dX3_hours_48 : decode cX3_hours 48 = .ok (.aload_n 0, 1) := by decide +kernel
theorem dX3_hours_49 : decode cX3_hours 49 = .ok (.invokevirtual 65, 3) := by decide +kernel
theorem dX3_hours_52 : decode cX3_hours 52 = .ok (.return_, 1) := by decide +kernel
theorem dX3_isPattern_0 : decode cX3_isPattern 0 = .ok (.iload_n 1, 1) := by decide +kernel
theorem dX3_isPattern_1 : decode cX3_isPattern 1 = .ok (.ifCond .lt 15, 3) := by decide +kernel
theorem dX3_isPattern_4 : decode cX3_isPattern 4 = .ok (.iload_n 1, 1) := by decide +kernel
theorem dX3_isPattern_5 : decode cX3_isPattern 5 = .ok (.aload_n 0, 1) := by decide +kernel
theorem dX3_isPattern_6 : decode cX3_isPattern 6 = .ok (.getfield 68, 3) := by decide +kernel
theorem dX3_isPattern_9 : decode cX3_isPattern 9 = .ok (.if_icmp .ge 7, 3) := by decide +kernel
theorem dX3_isPattern_12 : decode cX3_isPattern 12 = .ok (.iconst 1, 1) := by decide +kernel
theorem dX3_isPattern_13 : decode cX3_isPattern 13 = .ok (.goto 4, 3) := by decide +kernel
theorem dX3_isPattern_16 : decode cX3_isPattern 16 = .ok (.iconst 0, 1) := by decide +kernel
theorem dX3_isPattern_17 : decode cX3_isPattern 17 = .ok (.ireturn, 1) := by decide +kernel
theorem dX3_gives_0 : decode cX3_gives 0 = .ok (.aload_n 0, 1) := by decide +kernel
theorem dX3_gives_1 : decode cX3_gives 1 = .ok (.aload_n 0, 1) := by decide +kernel
theorem dX3_gives_2 : decode cX3_gives 2 = .ok (.iload_n 1, 1) := by decide +kernel
theorem dX3_gives_3 : decode cX3_gives 3 = .ok (.invokevirtual 71, 3) := by decide +kernel
theorem dX3_gives_6 : decode cX3_gives 6 = .ok (.ifCond .eq 12, 3) := by decide +kernel
theorem dX3_gives_9 : decode cX3_gives 9 = .ok (.iload_n 2, 1) := by decide +kernel
theorem dX3_gives_10 : decode cX3_gives 10 = .ok (.iconst 0, 1) := by decide +kernel
theorem dX3_gives_11 : decode cX3_gives 11 = .ok (.iconst 3, 1) := by decide +kernel
theorem dX3_gives_12 : decode cX3_gives 12 = .ok (.invokestatic 60, 3) := by decide +kernel
theorem dX3_gives_15 : decode cX3_gives 15 = .ok (.ifCond .ne 7, 3) := by decide +kernel
theorem dX3_gives_18 : decode cX3_gives 18 = .ok (.iconst 1, 1) := by decide +kernel
theorem dX3_gives_19 : decode cX3_gives 19 = .ok (.goto 18, 3) := by decide +kernel
theorem dX3_gives_22 : decode cX3_gives 22 = .ok (.iload_n 3, 1) := by decide +kernel
theorem dX3_gives_23 : decode cX3_gives 23 = .ok (.iconst 0, 1) := by decide +kernel
theorem dX3_gives_24 : decode cX3_gives 24 = .ok (.bipush 9, 2) := by decide +kernel
theorem dX3_gives_26 : decode cX3_gives 26 = .ok (.invokestatic 60, 3) := by decide +kernel
theorem dX3_gives_29 : decode cX3_gives 29 = .ok (.ifCond .ne 7, 3) := by decide +kernel
theorem dX3_gives_32 : decode cX3_gives 32 = .ok (.iconst 2, 1) := by decide +kernel
theorem dX3_gives_33 : decode cX3_gives 33 = .ok (.goto 4, 3) := by decide +kernel
theorem dX3_gives_36 : decode cX3_gives 36 = .ok (.iconst 0, 1) := by decide +kernel
theorem dX3_gives_37 : decode cX3_gives 37 = .ok (.putfield 50, 3) := by decide +kernel
theorem dX3_gives_40 : decode cX3_gives 40 = .ok (.aload_n 0, 1) := by decide +kernel
theorem dX3_gives_41 : decode cX3_gives 41 = .ok (.getfield 50, 3) := by decide +kernel
theorem dX3_gives_44 : decode cX3_gives 44 = .ok (.ifCond .ne 18, 3) := by decide +kernel
theorem dX3_gives_47 : decode cX3_gives 47 = .ok (.aload_n 0, 1) := by decide +kernel
theorem dX3_gives_48 : decode cX3_gives 48 = .ok (.getfield 22, 3) := by decide +kernel
theorem dX3_gives_51 : decode cX3_gives 51 = .ok (.iconst 4, 1) := by decide +kernel
theorem dX3_gives_52 : decode cX3_gives 52 = .ok (.iload_n 1, 1) := by decide +kernel
theorem dX3_gives_53 : decode cX3_gives 53 = .ok (.imul, 1) := by decide +kernel
theorem dX3_gives_54 : decode cX3_gives 54 = .ok (.iload_n 2, 1) := by decide +kernel
theorem dX3_gives_55 : decode cX3_gives 55 = .ok (.iadd, 1) := by decide +kernel
theorem dX3_gives_56 : decode cX3_gives 56 = .ok (.iload_n 3, 1) := by decide +kernel
theorem dX3_gives_57 : decode cX3_gives 57 = .ok (.iastore, 1) := by decide +kernel
theorem dX3_gives_58 : decode cX3_gives 58 = .ok (.aload_n 0, 1) := by decide +kernel
theorem dX3_gives_59 : decode cX3_gives 59 = .ok (.invokevirtual 65, 3) := by decide +kernel
theorem dX3_gives_62 : decode cX3_gives 62 = .ok (.return_, 1) := by decide +kernel
theorem dX3_pattern_0 : decode cX3_pattern 0 = .ok (.aload_n 0, 1) := by decide +kernel
theorem dX3_pattern_1 : decode cX3_pattern 1 = .ok (.iload_n 1, 1) := by decide +kernel
theorem dX3_pattern_2 : decode cX3_pattern 2 = .ok (.iconst 0, 1) := by decide +kernel
theorem dX3_pattern_3 : decode cX3_pattern 3 = .ok (.iconst 3, 1) := by decide +kernel
theorem dX3_pattern_4 : decode cX3_pattern 4 = .ok (.invokestatic 60, 3) := by decide +kernel
theorem dX3_pattern_7 : decode cX3_pattern 7 = .ok (.ifCond .ne 7, 3) := by decide +kernel
theorem dX3_pattern_10 : decode cX3_pattern 10 = .ok (.iconst 1, 1) := by decide +kernel
theorem dX3_pattern_11 : decode cX3_pattern 11 = .ok (.goto 32, 3) := by decide +kernel
theorem dX3_pattern_14 : decode cX3_pattern 14 = .ok (.iload_n 2, 1) := by decide +kernel
theorem dX3_pattern_15 : decode cX3_pattern 15 = .ok (.iconst 1, 1) := by decide +kernel
theorem dX3_pattern_16 : decode cX3_pattern 16 = .ok (.sipush 480, 3) := by decide +kernel
theorem dX3_pattern_19 : decode cX3_pattern 19 = .ok (.invokestatic 60, 3) := by decide +kernel
theorem dX3_pattern_22 : decode cX3_pattern 22 = .ok (.ifCond .ne 7, 3) := by decide +kernel
theorem dX3_pattern_25 : decode cX3_pattern 25 = .ok (.iconst 2, 1) := by decide +kernel
theorem dX3_pattern_26 : decode cX3_pattern 26 = .ok (.goto 17, 3) := by decide +kernel
theorem dX3_pattern_29 : decode cX3_pattern 29 = .ok (.aload_n 0, 1) := by decide +kernel
theorem dX3_pattern_30 : decode cX3_pattern 30 = .ok (.getfield 68, 3) := by decide +kernel
theorem dX3_pattern_33 : decode cX3_pattern 33 = .ok (.bipush 6, 2) := by decide +kernel
theorem dX3_pattern_35 : decode cX3_pattern 35 = .ok (.if_icmp .ne 7, 3) := by decide +kernel
theorem dX3_pattern_38 : decode cX3_pattern 38 = .ok (.iconst 3, 1) := by decide +kernel
theorem dX3_pattern_39 : decode cX3_pattern 39 = .ok (.goto 4, 3) := by decide +kernel
theorem dX3_pattern_42 : decode cX3_pattern 42 = .ok (.iconst 0, 1) := by decide +kernel
theorem dX3_pattern_43 : decode cX3_pattern 43 = .ok (.putfield 50, 3) := by decide +kernel
theorem dX3_pattern_46 : decode cX3_pattern 46 = .ok (.aload_n 0, 1) := by decide +kernel
theorem dX3_pattern_47 : decode cX3_pattern 47 = .ok (.getfield 50, 3) := by decide +kernel
theorem dX3_pattern_50 : decode cX3_pattern 50 = .ok (.ifCond .le 5, 3) := by decide +kernel
theorem dX3_pattern_53 : decode cX3_pattern 53 = .ok (.iconst 0, 1) := by decide +kernel
theorem dX3_pattern_54 : decode cX3_pattern 54 = .ok (.ireturn, 1) := by decide +kernel
theorem dX3_pattern_55 : decode cX3_pattern 55 = .ok (.aload_n 0, 1) := by decide +kernel
theorem dX3_pattern_56 : decode cX3_pattern 56 = .ok (.getfield 16, 3) := by decide +kernel
theorem dX3_pattern_59 : decode cX3_pattern 59 = .ok (.aload_n 0, 1) := by decide +kernel
theorem dX3_pattern_60 : decode cX3_pattern 60 = .ok (.getfield 68, 3) := by decide +kernel
theorem dX3_pattern_63 : decode cX3_pattern 63 = .ok (.iload_n 1, 1) := by decide +kernel
theorem dX3_pattern_64 : decode cX3_pattern 64 = .ok (.iastore, 1) := by decide +kernel
theorem dX3_pattern_65 : decode cX3_pattern 65 = .ok (.aload_n 0, 1) := by decide +kernel
theorem dX3_pattern_66 : decode cX3_pattern 66 = .ok (.getfield 19, 3) := by decide +kernel
theorem dX3_pattern_69 : decode cX3_pattern 69 = .ok (.aload_n 0, 1) := by decide +kernel
theorem dX3_pattern_70 : decode cX3_pattern 70 = .ok (.getfield 68, 3) := by decide +kernel
theorem dX3_pattern_73 : decode cX3_pattern 73 = .ok (.iload_n 2, 1) := by decide +kernel
theorem dX3_pattern_74 : decode cX3_pattern 74 = .ok (.iastore, 1) := by decide +kernel
theorem dX3_pattern_75 : decode cX3_pattern 75 = .ok (.aload_n 0, 1) := by decide +kernel
theorem dX3_pattern_76 : decode cX3_pattern 76 = .ok (.dup, 1) := by decide +kernel
theorem dX3_pattern_77 : decode cX3_pattern 77 = .ok (.getfield 68, 3) := by decide +kernel
theorem dX3_pattern_80 : decode cX3_pattern 80 = .ok (.iconst 1, 1) := by decide +kernel
theorem dX3_pattern_81 : decode cX3_pattern 81 = .ok (.iadd, 1) := by decide +kernel
theorem dX3_pattern_82 : decode cX3_pattern 82 = .ok (.putfield 68, 3) := by decide +kernel
theorem dX3_pattern_85 : decode cX3_pattern 85 = .ok (.aload_n 0, 1) := by decide +kernel
theorem dX3_pattern_86 : decode cX3_pattern 86 = .ok (.invokevirtual 65, 3) := by decide +kernel
theorem dX3_pattern_89 : decode cX3_pattern 89 = .ok (.aload_n 0, 1) := by decide +kernel
theorem dX3_pattern_90 : decode cX3_pattern 90 = .ok (.getfield 68, 3) := by decide +kernel
theorem dX3_pattern_93 : decode cX3_pattern 93 = .ok (.iconst 1, 1) := by decide +kernel
theorem dX3_pattern_94 : decode cX3_pattern 94 = .ok (.isub, 1) := by decide +kernel
theorem dX3_pattern_95 : decode cX3_pattern 95 = .ok (.ireturn, 1) := by decide +kernel
theorem dX3_lesser_0 : decode cX3_lesser 0 = .ok (.iload_n 0, 1) := by decide +kernel
theorem dX3_lesser_1 : decode cX3_lesser 1 = .ok (.iload_n 1, 1) := by decide +kernel
theorem dX3_lesser_2 : decode cX3_lesser 2 = .ok (.if_icmp .ge 7, 3) := by decide +kernel
theorem dX3_lesser_5 : decode cX3_lesser 5 = .ok (.iload_n 0, 1) := by decide +kernel
theorem dX3_lesser_6 : decode cX3_lesser 6 = .ok (.goto 4, 3) := by decide +kernel
theorem dX3_lesser_9 : decode cX3_lesser 9 = .ok (.iload_n 1, 1) := by decide +kernel
theorem dX3_lesser_10 : decode cX3_lesser 10 = .ok (.ireturn, 1) := by decide +kernel
theorem dX3_minutesOf_0 : decode cX3_minutesOf 0 = .ok (.iconst 0, 1) := by decide +kernel
theorem dX3_minutesOf_1 : decode cX3_minutesOf 1 = .ok (.istore_n 3, 1) := by decide +kernel
theorem dX3_minutesOf_2 : decode cX3_minutesOf 2 = .ok (.iconst 0, 1) := by decide +kernel
theorem dX3_minutesOf_3 : decode cX3_minutesOf 3 = .ok (.istore 4, 2) := by decide +kernel
theorem dX3_minutesOf_5 : decode cX3_minutesOf 5 = .ok (.iload 4, 2) := by decide +kernel
theorem dX3_minutesOf_7 : decode cX3_minutesOf 7 = .ok (.iload_n 2, 1) := by decide +kernel
theorem dX3_minutesOf_8 : decode cX3_minutesOf 8 = .ok (.if_icmp .ge 40, 3) := by decide +kernel
theorem dX3_minutesOf_11 : decode cX3_minutesOf 11 = .ok (.iload_n 3, 1) := by decide +kernel
theorem dX3_minutesOf_12 : decode cX3_minutesOf 12 = .ok (.aload_n 1, 1) := by decide +kernel
theorem dX3_minutesOf_13 : decode cX3_minutesOf 13 = .ok (.iload 4, 2) := by decide +kernel
theorem dX3_minutesOf_15 : decode cX3_minutesOf 15 = .ok (.iaload, 1) := by decide +kernel
theorem dX3_minutesOf_16 : decode cX3_minutesOf 16 = .ok (.aload_n 0, 1) := by decide +kernel
theorem dX3_minutesOf_17 : decode cX3_minutesOf 17 = .ok (.getfield 19, 3) := by decide +kernel
theorem dX3_minutesOf_20 : decode cX3_minutesOf 20 = .ok (.iload 4, 2) := by decide +kernel
theorem dX3_minutesOf_22 : decode cX3_minutesOf 22 = .ok (.iaload, 1) := by decide +kernel
theorem dX3_minutesOf_23 : decode cX3_minutesOf 23 = .ok (.imul, 1) := by decide +kernel
theorem dX3_minutesOf_24 : decode cX3_minutesOf 24 = .ok (.aload_n 1, 1) := by decide +kernel
theorem dX3_minutesOf_25 : decode cX3_minutesOf 25 = .ok (.iload 4, 2) := by decide +kernel
theorem dX3_minutesOf_27 : decode cX3_minutesOf 27 = .ok (.iaload, 1) := by decide +kernel
theorem dX3_minutesOf_28 : decode cX3_minutesOf 28 = .ok (.ifCond .le 10, 3) := by decide +kernel
theorem dX3_minutesOf_31 : decode cX3_minutesOf 31 = .ok (.aload_n 0, 1) := by decide +kernel
theorem dX3_minutesOf_32 : decode cX3_minutesOf 32 = .ok (.getfield 75, 3) := by decide +kernel
theorem dX3_minutesOf_35 : decode cX3_minutesOf 35 = .ok (.goto 4, 3) := by decide +kernel
theorem dX3_minutesOf_38 : decode cX3_minutesOf 38 = .ok (.iconst 0, 1) := by decide +kernel
theorem dX3_minutesOf_39 : decode cX3_minutesOf 39 = .ok (.iadd, 1) := by decide +kernel
theorem dX3_minutesOf_40 : decode cX3_minutesOf 40 = .ok (.iadd, 1) := by decide +kernel
theorem dX3_minutesOf_41 : decode cX3_minutesOf 41 = .ok (.istore_n 3, 1) := by decide +kernel
theorem dX3_minutesOf_42 : decode cX3_minutesOf 42 = .ok (.iinc 4 1, 3) := by decide +kernel
theorem dX3_minutesOf_45 : decode cX3_minutesOf 45 = .ok (.goto (-40), 3) := by decide +kernel
theorem dX3_minutesOf_48 : decode cX3_minutesOf 48 = .ok (.iload_n 3, 1) := by decide +kernel
theorem dX3_minutesOf_49 : decode cX3_minutesOf 49 = .ok (.ireturn, 1) := by decide +kernel
theorem dX3_madeOf_0 : decode cX3_madeOf 0 = .ok (.aload_n 0, 1) := by decide +kernel
theorem dX3_madeOf_1 : decode cX3_madeOf 1 = .ok (.getfield 34, 3) := by decide +kernel
theorem dX3_madeOf_4 : decode cX3_madeOf 4 = .ok (.iload_n 2, 1) := by decide +kernel
theorem dX3_madeOf_5 : decode cX3_madeOf 5 = .ok (.iaload, 1) := by decide +kernel
theorem dX3_madeOf_6 : decode cX3_madeOf 6 = .ok (.istore_n 3, 1) := by decide +kernel
theorem dX3_madeOf_7 : decode cX3_madeOf 7 = .ok (.iconst 0, 1) := by decide +kernel
theorem dX3_madeOf_8 : decode cX3_madeOf 8 = .ok (.istore 4, 2) := by decide +kernel
theorem dX3_madeOf_10 : decode cX3_madeOf 10 = .ok (.iload 4, 2) := by decide +kernel
theorem dX3_madeOf_12 : decode cX3_madeOf 12 = .ok (.aload_n 0, 1) := by decide +kernel
theorem dX3_madeOf_13 : decode cX3_madeOf 13 = .ok (.getfield 68, 3) := by decide +kernel
theorem dX3_madeOf_16 : decode cX3_madeOf 16 = .ok (.if_icmp .ge 28, 3) := by decide +kernel
theorem dX3_madeOf_19 : decode cX3_madeOf 19 = .ok (.iload_n 3, 1) := by decide +kernel
theorem dX3_madeOf_20 : decode cX3_madeOf 20 = .ok (.aload_n 1, 1) := by decide +kernel
theorem dX3_madeOf_21 : decode cX3_madeOf 21 = .ok (.iload 4, 2) := by decide +kernel
theorem dX3_madeOf_23 : decode cX3_madeOf 23 = .ok (.iaload, 1) := by decide +kernel
theorem dX3_madeOf_24 : decode cX3_madeOf 24 = .ok (.aload_n 0, 1) := by decide +kernel
theorem dX3_madeOf_25 : decode cX3_madeOf 25 = .ok (.getfield 22, 3) := by decide +kernel
theorem dX3_madeOf_28 : decode cX3_madeOf 28 = .ok (.iconst 4, 1) := by decide +kernel
theorem dX3_madeOf_29 : decode cX3_madeOf 29 = .ok (.iload 4, 2) := by decide +kernel
theorem dX3_madeOf_31 : decode cX3_madeOf 31 = .ok (.imul, 1) := by decide +kernel
theorem dX3_madeOf_32 : decode cX3_madeOf 32 = .ok (.iload_n 2, 1) := by decide +kernel
theorem dX3_madeOf_33 : decode cX3_madeOf 33 = .ok (.iadd, 1) := by decide +kernel
theorem dX3_madeOf_34 : decode cX3_madeOf 34 = .ok (.iaload, 1) := by decide +kernel
theorem dX3_madeOf_35 : decode cX3_madeOf 35 = .ok (.imul, 1) := by decide +kernel
theorem dX3_madeOf_36 : decode cX3_madeOf 36 = .ok (.iadd, 1) := by decide +kernel
theorem dX3_madeOf_37 : decode cX3_madeOf 37 = .ok (.istore_n 3, 1) := by decide +kernel
theorem dX3_madeOf_38 : decode cX3_madeOf 38 = .ok (.iinc 4 1, 3) := by decide +kernel
theorem dX3_madeOf_41 : decode cX3_madeOf 41 = .ok (.goto (-31), 3) := by decide +kernel
theorem dX3_madeOf_44 : decode cX3_madeOf 44 = .ok (.iload_n 3, 1) := by decide +kernel
theorem dX3_madeOf_45 : decode cX3_madeOf 45 = .ok (.ireturn, 1) := by decide +kernel
theorem dX3_fits_0 : decode cX3_fits 0 = .ok (.aload_n 0, 1) := by decide +kernel
theorem dX3_fits_1 : decode cX3_fits 1 = .ok (.aload_n 0, 1) := by decide +kernel
theorem dX3_fits_2 : decode cX3_fits 2 = .ok (.getfield 44, 3) := by decide +kernel
theorem dX3_fits_5 : decode cX3_fits 5 = .ok (.iload_n 1, 1) := by decide +kernel
theorem dX3_fits_6 : decode cX3_fits 6 = .ok (.invokevirtual 78, 3) := by decide +kernel
theorem dX3_fits_9 : decode cX3_fits 9 = .ok (.aload_n 0, 1) := by decide +kernel
theorem dX3_fits_10 : decode cX3_fits 10 = .ok (.getfield 37, 3) := by decide +kernel
theorem dX3_fits_13 : decode cX3_fits 13 = .ok (.if_icmp .le 5, 3) := by decide +kernel
theorem dX3_fits_16 : decode cX3_fits 16 = .ok (.iconst 0, 1) := by decide +kernel
theorem dX3_fits_17 : decode cX3_fits 17 = .ok (.ireturn, 1) := by decide +kernel
theorem dX3_fits_18 : decode cX3_fits 18 = .ok (.iconst 0, 1) := by decide +kernel
theorem dX3_fits_19 : decode cX3_fits 19 = .ok (.istore_n 2, 1) := by decide +kernel
theorem dX3_fits_20 : decode cX3_fits 20 = .ok (.iload_n 2, 1) := by decide +kernel
theorem dX3_fits_21 : decode cX3_fits 21 = .ok (.iconst 4, 1) := by decide +kernel
theorem dX3_fits_22 : decode cX3_fits 22 = .ok (.if_icmp .ge 63, 3) := by decide +kernel
theorem dX3_fits_25 : decode cX3_fits 25 = .ok (.iconst 0, 1) := by decide +kernel
theorem dX3_fits_26 : decode cX3_fits 26 = .ok (.istore_n 3, 1) := by decide +kernel
theorem dX3_fits_27 : decode cX3_fits 27 = .ok (.iconst 0, 1) := by decide +kernel
theorem dX3_fits_28 : decode cX3_fits 28 = .ok (.istore 4, 2) := by decide +kernel
theorem dX3_fits_30 : decode cX3_fits 30 = .ok (.iload 4, 2) := by decide +kernel
theorem dX3_fits_32 : decode cX3_fits 32 = .ok (.iload_n 1, 1) := by decide +kernel
theorem dX3_fits_33 : decode cX3_fits 33 = .ok (.if_icmp .ge 34, 3) := by decide +kernel
theorem dX3_fits_36 : decode cX3_fits 36 = .ok (.iload_n 3, 1) := by decide +kernel
theorem dX3_fits_37 : decode cX3_fits 37 = .ok (.aload_n 0, 1) := by decide +kernel
theorem dX3_fits_38 : decode cX3_fits 38 = .ok (.getfield 16, 3) := by decide +kernel
theorem dX3_fits_41 : decode cX3_fits 41 = .ok (.iload 4, 2) := by decide +kernel
theorem dX3_fits_43 : decode cX3_fits 43 = .ok (.iaload, 1) := by decide +kernel
theorem dX3_fits_44 : decode cX3_fits 44 = .ok (.iload_n 2, 1) := by decide +kernel
theorem dX3_fits_45 : decode cX3_fits 45 = .ok (.if_icmp .ne 13, 3) := by decide +kernel
theorem dX3_fits_48 : decode cX3_fits 48 = .ok (.aload_n 0, 1) := by decide +kernel
theorem dX3_fits_49 : decode cX3_fits 49 = .ok (.getfield 44, 3) := by decide +kernel
theorem dX3_fits_52 : decode cX3_fits 52 = .ok (.iload 4, 2) := by decide +kernel
theorem dX3_fits_54 : decode cX3_fits 54 = .ok (.iaload, 1) := by decide +kernel
theorem dX3_fits_55 : decode cX3_fits 55 = .ok (.goto 4, 3) := by decide +kernel
theorem dX3_fits_58 : decode cX3_fits 58 = .ok (.iconst 0, 1) := by decide +kernel
theorem dX3_fits_59 : decode cX3_fits 59 = .ok (.iadd, 1) := by decide +kernel
theorem dX3_fits_60 : decode cX3_fits 60 = .ok (.istore_n 3, 1) := by decide +kernel
theorem dX3_fits_61 : decode cX3_fits 61 = .ok (.iinc 4 1, 3) := by decide +kernel
theorem dX3_fits_64 : decode cX3_fits 64 = .ok (.goto (-34), 3) := by decide +kernel
theorem dX3_fits_67 : decode cX3_fits 67 = .ok (.iload_n 3, 1) := by decide +kernel
theorem dX3_fits_68 : decode cX3_fits 68 = .ok (.aload_n 0, 1) := by decide +kernel
theorem dX3_fits_69 : decode cX3_fits 69 = .ok (.getfield 7, 3) := by decide +kernel
theorem dX3_fits_72 : decode cX3_fits 72 = .ok (.iload_n 2, 1) := by decide +kernel
theorem dX3_fits_73 : decode cX3_fits 73 = .ok (.iaload, 1) := by decide +kernel
theorem dX3_fits_74 : decode cX3_fits 74 = .ok (.if_icmp .le 5, 3) := by decide +kernel
theorem dX3_fits_77 : decode cX3_fits 77 = .ok (.iconst 0, 1) := by decide +kernel
theorem dX3_fits_78 : decode cX3_fits 78 = .ok (.ireturn, 1) := by decide +kernel
theorem dX3_fits_79 : decode cX3_fits 79 = .ok (.iinc 2 1, 3) := by decide +kernel
theorem dX3_fits_82 : decode cX3_fits 82 = .ok (.goto (-62), 3) := by decide +kernel
theorem dX3_fits_85 : decode cX3_fits 85 = .ok (.iconst 1, 1) := by decide +kernel
theorem dX3_fits_86 : decode cX3_fits 86 = .ok (.ireturn, 1) := by decide +kernel
theorem dX3_bound_0 : decode cX3_bound 0 = .ok (.iconst 0, 1) := by decide +kernel
theorem dX3_bound_1 : decode cX3_bound 1 = .ok (.istore_n 1, 1) := by decide +kernel
theorem dX3_bound_2 : decode cX3_bound 2 = .ok (.iconst 0, 1) := by decide +kernel
theorem dX3_bound_3 : decode cX3_bound 3 = .ok (.istore_n 2, 1) := by decide +kernel
theorem dX3_bound_4 : decode cX3_bound 4 = .ok (.iload_n 2, 1) := by decide +kernel
theorem dX3_bound_5 : decode cX3_bound 5 = .ok (.iconst 4, 1) := by decide +kernel
theorem dX3_bound_6 : decode cX3_bound 6 = .ok (.if_icmp .ge 25, 3) := by decide +kernel
theorem dX3_bound_9 : decode cX3_bound 9 = .ok (.iload_n 1, 1) := by decide +kernel
theorem dX3_bound_10 : decode cX3_bound 10 = .ok (.aload_n 0, 1) := by decide +kernel
theorem dX3_bound_11 : decode cX3_bound 11 = .ok (.getfield 31, 3) := by decide +kernel
theorem dX3_bound_14 : decode cX3_bound 14 = .ok (.iload_n 2, 1) := by decide +kernel
theorem dX3_bound_15 : decode cX3_bound 15 = .ok (.iaload, 1) := by decide +kernel
theorem dX3_bound_16 : decode cX3_bound 16 = .ok (.aload_n 0, 1) := by decide +kernel
theorem dX3_bound_17 : decode cX3_bound 17 = .ok (.getfield 28, 3) := by decide +kernel
theorem dX3_bound_20 : decode cX3_bound 20 = .ok (.iload_n 2, 1) := by decide +kernel
theorem dX3_bound_21 : decode cX3_bound 21 = .ok (.iaload, 1) := by decide +kernel
theorem dX3_bound_22 : decode cX3_bound 22 = .ok (.imul, 1) := by decide +kernel
theorem dX3_bound_23 : decode cX3_bound 23 = .ok (.iadd, 1) := by decide +kernel
theorem dX3_bound_24 : decode cX3_bound 24 = .ok (.istore_n 1, 1) := by decide +kernel
theorem dX3_bound_25 : decode cX3_bound 25 = .ok (.iinc 2 1, 3) := by decide +kernel
theorem dX3_bound_28 : decode cX3_bound 28 = .ok (.goto (-24), 3) := by decide +kernel
theorem dX3_bound_31 : decode cX3_bound 31 = .ok (.iload_n 1, 1) := by decide +kernel
theorem dX3_bound_32 : decode cX3_bound 32 = .ok (.ireturn, 1) := by decide +kernel
theorem dX3_look_0 : decode cX3_look 0 = .ok (.iconst 0, 1) := by decide +kernel
theorem dX3_look_1 : decode cX3_look 1 = .ok (.istore_n 1, 1) := by decide +kernel
theorem dX3_look_2 : decode cX3_look 2 = .ok (.iconst 0, 1) := by decide +kernel
theorem dX3_look_3 : decode cX3_look 3 = .ok (.istore_n 2, 1) := by decide +kernel
theorem dX3_look_4 : decode cX3_look 4 = .ok (.iload_n 2, 1) := by decide +kernel
theorem dX3_look_5 : decode cX3_look 5 = .ok (.iconst 4, 1) := by decide +kernel
theorem dX3_look_6 : decode cX3_look 6 = .ok (.if_icmp .ge 50, 3) := by decide +kernel
theorem dX3_look_9 : decode cX3_look 9 = .ok (.aload_n 0, 1) := by decide +kernel
theorem dX3_look_10 : decode cX3_look 10 = .ok (.aload_n 0, 1) := by decide +kernel
theorem dX3_look_11 : decode cX3_look 11 = .ok (.getfield 44, 3) := by decide +kernel
theorem dX3_look_14 : decode cX3_look 14 = .ok (.iload_n 2, 1) := by decide +kernel
theorem dX3_look_15 : decode cX3_look 15 = .ok (.invokevirtual 82, 3) := by decide +kernel
theorem dX3_look_18 : decode cX3_look 18 = .ok (.istore_n 3, 1) := by decide +kernel
theorem dX3_look_19 : decode cX3_look 19 = .ok (.iload_n 3, 1) := by decide +kernel
theorem dX3_look_20 : decode cX3_look 20 = .ok (.aload_n 0, 1) := by decide +kernel
theorem dX3_look_21 : decode cX3_look 21 = .ok (.getfield 25, 3) := by decide +kernel
theorem dX3_look_24 : decode cX3_look 24 = .ok (.iload_n 2, 1) := by decide +kernel
theorem dX3_look_25 : decode cX3_look 25 = .ok (.iaload, 1) := by decide +kernel
theorem dX3_look_26 : decode cX3_look 26 = .ok (.if_icmp .ge 4, 3) := by decide +kernel
theorem dX3_look_29 : decode cX3_look 29 = .ok (.return_, 1) := by decide +kernel
theorem dX3_look_30 : decode cX3_look 30 = .ok (.iload_n 1, 1) := by decide +kernel
theorem dX3_look_31 : decode cX3_look 31 = .ok (.aload_n 0, 1) := by decide +kernel
theorem dX3_look_32 : decode cX3_look 32 = .ok (.getfield 31, 3) := by decide +kernel
theorem dX3_look_35 : decode cX3_look 35 = .ok (.iload_n 2, 1) := by decide +kernel
theorem dX3_look_36 : decode cX3_look 36 = .ok (.iaload, 1) := by decide +kernel
theorem dX3_look_37 : decode cX3_look 37 = .ok (.iload_n 3, 1) := by decide +kernel
theorem dX3_look_38 : decode cX3_look 38 = .ok (.aload_n 0, 1) := by decide +kernel
theorem dX3_look_39 : decode cX3_look 39 = .ok (.getfield 28, 3) := by decide +kernel
theorem dX3_look_42 : decode cX3_look 42 = .ok (.iload_n 2, 1) := by decide +kernel
theorem dX3_look_43 : decode cX3_look 43 = .ok (.iaload, 1) := by decide +kernel
theorem dX3_look_44 : decode cX3_look 44 = .ok (.invokestatic 85, 3) := by decide +kernel
theorem dX3_look_47 : decode cX3_look 47 = .ok (.imul, 1) := by decide +kernel
theorem dX3_look_48 : decode cX3_look 48 = .ok (.iadd, 1) := by decide +kernel
theorem dX3_look_49 : decode cX3_look 49 = .ok (.istore_n 1, 1) := by decide +kernel
theorem dX3_look_50 : decode cX3_look 50 = .ok (.iinc 2 1, 3) := by decide +kernel
theorem dX3_look_53 : decode cX3_look 53 = .ok (.goto (-49), 3) := by decide +kernel
theorem dX3_look_56 : decode cX3_look 56 = .ok (.iconst 0, 1) := by decide +kernel
theorem dX3_look_57 : decode cX3_look 57 = .ok (.istore_n 2, 1) := by decide +kernel
theorem dX3_look_58 : decode cX3_look 58 = .ok (.iload_n 2, 1) := by decide +kernel
theorem dX3_look_59 : decode cX3_look 59 = .ok (.aload_n 0, 1) := by decide +kernel
theorem dX3_look_60 : decode cX3_look 60 = .ok (.getfield 68, 3) := by decide +kernel
theorem dX3_look_63 : decode cX3_look 63 = .ok (.if_icmp .ge 30, 3) := by decide +kernel
theorem dX3_look_66 : decode cX3_look 66 = .ok (.iload_n 1, 1) := by decide +kernel
theorem dX3_look_67 : decode cX3_look 67 = .ok (.aload_n 0, 1) := by decide +kernel
theorem dX3_look_68 : decode cX3_look 68 = .ok (.getfield 13, 3) := by decide +kernel
theorem dX3_look_71 : decode cX3_look 71 = .ok (.aload_n 0, 1) := by decide +kernel
theorem dX3_look_72 : decode cX3_look 72 = .ok (.getfield 16, 3) := by decide +kernel
theorem dX3_look_75 : decode cX3_look 75 = .ok (.iload_n 2, 1) := by decide +kernel
theorem dX3_look_76 : decode cX3_look 76 = .ok (.iaload, 1) := by decide +kernel
theorem dX3_look_77 : decode cX3_look 77 = .ok (.iaload, 1) := by decide +kernel
theorem dX3_look_78 : decode cX3_look 78 = .ok (.aload_n 0, 1) := by decide +kernel
theorem dX3_look_79 : decode cX3_look 79 = .ok (.getfield 44, 3) := by decide +kernel
theorem dX3_look_82 : decode cX3_look 82 = .ok (.iload_n 2, 1) := by decide +kernel
theorem dX3_look_83 : decode cX3_look 83 = .ok (.iaload, 1) := by decide +kernel
theorem dX3_look_84 : decode cX3_look 84 = .ok (.imul, 1) := by decide +kernel
theorem dX3_look_85 : decode cX3_look 85 = .ok (.isub, 1) := by decide +kernel
theorem dX3_look_86 : decode cX3_look 86 = .ok (.istore_n 1, 1) := by decide +kernel
theorem dX3_look_87 : decode cX3_look 87 = .ok (.iinc 2 1, 3) := by decide +kernel
theorem dX3_look_90 : decode cX3_look 90 = .ok (.goto (-32), 3) := by decide +kernel
theorem dX3_look_93 : decode cX3_look 93 = .ok (.aload_n 0, 1) := by decide +kernel
theorem dX3_look_94 : decode cX3_look 94 = .ok (.getfield 89, 3) := by decide +kernel
theorem dX3_look_97 : decode cX3_look 97 = .ok (.ifCond .eq 11, 3) := by decide +kernel
theorem dX3_look_100 : decode cX3_look 100 = .ok (.iload_n 1, 1) := by decide +kernel
theorem dX3_look_101 : decode cX3_look 101 = .ok (.aload_n 0, 1) := by decide +kernel
theorem dX3_look_102 : decode cX3_look 102 = .ok (.getfield 92, 3) := by decide +kernel
theorem dX3_look_105 : decode cX3_look 105 = .ok (.if_icmp .le 51, 3) := by decide +kernel
theorem dX3_look_108 : decode cX3_look 108 = .ok (.aload_n 0, 1) := by decide +kernel
theorem dX3_look_109 : decode cX3_look 109 = .ok (.iconst 1, 1) := by decide +kernel
theorem dX3_look_110 : decode cX3_look 110 = .ok (.putfield 89, 3) := by decide +kernel
theorem dX3_look_113 : decode cX3_look 113 = .ok (.aload_n 0, 1) := by decide +kernel
theorem dX3_look_114 : decode cX3_look 114 = .ok (.iload_n 1, 1) := by decide +kernel
theorem dX3_look_115 : decode cX3_look 115 = .ok (.putfield 92, 3) := by decide +kernel
theorem dX3_look_118 : decode cX3_look 118 = .ok (.iconst 0, 1) := by decide +kernel
theorem dX3_look_119 : decode cX3_look 119 = .ok (.istore_n 2, 1) := by decide +kernel
theorem dX3_look_120 : decode cX3_look 120 = .ok (.iload_n 2, 1) := by decide +kernel
theorem dX3_look_121 : decode cX3_look 121 = .ok (.bipush 6, 2) := by decide +kernel
theorem dX3_look_123 : decode cX3_look 123 = .ok (.if_icmp .ge 33, 3) := by decide +kernel
theorem dX3_look_126 : decode cX3_look 126 = .ok (.aload_n 0, 1) := by decide +kernel
theorem dX3_look_127 : decode cX3_look 127 = .ok (.getfield 47, 3) := by decide +kernel
theorem dX3_look_130 : decode cX3_look 130 = .ok (.iload_n 2, 1) := by decide +kernel
theorem dX3_look_131 : decode cX3_look 131 = .ok (.iload_n 2, 1) := by decide +kernel
theorem dX3_look_132 : decode cX3_look 132 = .ok (.aload_n 0, 1) := by decide +kernel
theorem dX3_look_133 : decode cX3_look 133 = .ok (.getfield 68, 3) := by decide +kernel
theorem dX3_look_136 : decode cX3_look 136 = .ok (.if_icmp .ge 12, 3) := by decide +kernel
theorem dX3_look_139 : decode cX3_look 139 = .ok (.aload_n 0, 1) := by decide +kernel
theorem dX3_look_140 : decode cX3_look 140 = .ok (.getfield 44, 3) := by decide +kernel
theorem dX3_look_143 : decode cX3_look 143 = .ok (.iload_n 2, 1) := by decide +kernel
theorem dX3_look_144 : decode cX3_look 144 = .ok (.iaload, 1) := by decide +kernel
theorem dX3_look_145 : decode cX3_look 145 = .ok (.goto 4, 3) := by decide +kernel
theorem dX3_look_148 : decode cX3_look 148 = .ok (.iconst 0, 1) := by decide +kernel
theorem dX3_look_149 : decode cX3_look 149 = .ok (.iastore, 1) := by decide +kernel
theorem dX3_look_150 : decode cX3_look 150 = .ok (.iinc 2 1, 3) := by decide +kernel
theorem dX3_look_153 : decode cX3_look 153 = .ok (.goto (-33), 3) := by decide +kernel
theorem dX3_look_156 : decode cX3_look 156 = .ok (.return_, 1) := by decide +kernel
theorem dX3_seek_0 : decode cX3_seek 0 = .ok (.aload_n 0, 1) := by decide +kernel
theorem dX3_seek_1 : decode cX3_seek 1 = .ok (.iconst 0, 1) := by decide +kernel
theorem dX3_seek_2 : decode cX3_seek 2 = .ok (.putfield 89, 3) := by decide +kernel
theorem dX3_seek_5 : decode cX3_seek 5 = .ok (.aload_n 0, 1) := by decide +kernel
theorem dX3_seek_6 : decode cX3_seek 6 = .ok (.iconst 0, 1) := by decide +kernel
theorem dX3_seek_7 : decode cX3_seek 7 = .ok (.putfield 95, 3) := by decide +kernel
theorem dX3_seek_10 : decode cX3_seek 10 = .ok (.aload_n 0, 1) := by decide +kernel
theorem dX3_seek_11 : decode cX3_seek 11 = .ok (.iconst 0, 1) := by decide +kernel
theorem dX3_seek_12 : decode cX3_seek 12 = .ok (.putfield 98, 3) := by decide +kernel
theorem dX3_seek_15 : decode cX3_seek 15 = .ok (.aload_n 0, 1) := by decide +kernel
theorem dX3_seek_16 : decode cX3_seek 16 = .ok (.getfield 68, 3) := by decide +kernel
theorem dX3_seek_19 : decode cX3_seek 19 = .ok (.ifCond .ne 8, 3) := by decide +kernel
theorem dX3_seek_22 : decode cX3_seek 22 = .ok (.aload_n 0, 1) := by decide +kernel
theorem dX3_seek_23 : decode cX3_seek 23 = .ok (.invokevirtual 101, 3) := by decide +kernel
theorem dX3_seek_26 : decode cX3_seek 26 = .ok (.return_, 1) := by decide +kernel
theorem dX3_seek_27 : decode cX3_seek 27 = .ok (.iconst 1, 1) := by decide +kernel
theorem dX3_seek_28 : decode cX3_seek 28 = .ok (.istore_n 2, 1) := by decide +kernel
theorem dX3_seek_29 : decode cX3_seek 29 = .ok (.aload_n 0, 1) := by decide +kernel
theorem dX3_seek_30 : decode cX3_seek 30 = .ok (.getfield 44, 3) := by decide +kernel
theorem dX3_seek_33 : decode cX3_seek 33 = .ok (.iconst 0, 1) := by decide +kernel
theorem dX3_seek_34 : decode cX3_seek 34 = .ok (.iconst (-1), 1) := by decide +kernel
theorem dX3_seek_35 : decode cX3_seek 35 = .ok (.iastore, 1) := by decide +kernel
theorem dX3_seek_36 : decode cX3_seek 36 = .ok (.iload_n 2, 1) := by decide +kernel
theorem dX3_seek_37 : decode cX3_seek 37 = .ok (.ifCond .le 94, 3) := by decide +kernel
theorem dX3_seek_40 : decode cX3_seek 40 = .ok (.aload_n 0, 1) := by decide +kernel
theorem dX3_seek_41 : decode cX3_seek 41 = .ok (.getfield 44, 3) := by decide +kernel
theorem dX3_seek_44 : decode cX3_seek 44 = .ok (.iload_n 2, 1) := by decide +kernel
theorem dX3_seek_45 : decode cX3_seek 45 = .ok (.iconst 1, 1) := by decide +kernel
theorem dX3_seek_46 : decode cX3_seek 46 = .ok (.isub, 1) := by decide +kernel
theorem dX3_seek_47 : decode cX3_seek 47 = .ok (.dup2, 1) := by decide +kernel
theorem dX3_seek_48 : decode cX3_seek 48 = .ok (.iaload, 1) := by decide +kernel
theorem dX3_seek_49 : decode cX3_seek 49 = .ok (.iconst 1, 1) := by decide +kernel
theorem dX3_seek_50 : decode cX3_seek 50 = .ok (.iadd, 1) := by decide +kernel
theorem dX3_seek_51 : decode cX3_seek 51 = .ok (.iastore, 1) := by decide +kernel
theorem dX3_seek_52 : decode cX3_seek 52 = .ok (.aload_n 0, 1) := by decide +kernel
theorem dX3_seek_53 : decode cX3_seek 53 = .ok (.getfield 44, 3) := by decide +kernel
theorem dX3_seek_56 : decode cX3_seek 56 = .ok (.iload_n 2, 1) := by decide +kernel
theorem dX3_seek_57 : decode cX3_seek 57 = .ok (.iconst 1, 1) := by decide +kernel
theorem dX3_seek_58 : decode cX3_seek 58 = .ok (.isub, 1) := by decide +kernel
theorem dX3_seek_59 : decode cX3_seek 59 = .ok (.iaload, 1) := by decide +kernel
theorem dX3_seek_60 : decode cX3_seek 60 = .ok (.bipush 12, 2) := by decide +kernel
theorem dX3_seek_62 : decode cX3_seek 62 = .ok (.if_icmp .gt 11, 3) := by decide +kernel
theorem dX3_seek_65 : decode cX3_seek 65 = .ok (.aload_n 0, 1) := by decide +kernel
theorem dX3_seek_66 : decode cX3_seek 66 = .ok (.iload_n 2, 1) := by decide +kernel
theorem dX3_seek_67 : decode cX3_seek 67 = .ok (.invokevirtual 104, 3) := by decide +kernel
theorem dX3_seek_70 : decode cX3_seek 70 = .ok (.ifCond .ne 9, 3) := by decide +kernel
theorem dX3_seek_73 : decode cX3_seek 73 = .ok (.iinc 2 (-1), 3) := by decide +kernel
theorem dX3_seek_76 : decode cX3_seek 76 = .ok (.goto (-40), 3) := by decide +kernel
theorem dX3_seek_79 : decode cX3_seek 79 = .ok (.aload_n 0, 1) := by decide +kernel
theorem dX3_seek_80 : decode cX3_seek 80 = .ok (.getfield 98, 3) := by decide +kernel
theorem dX3_seek_83 : decode cX3_seek 83 = .ok (.iload_n 1, 1) := by decide +kernel
theorem dX3_seek_84 : decode cX3_seek 84 = .ok (.if_icmp .ne 9, 3) := by decide +kernel
theorem dX3_seek_87 : decode cX3_seek 87 = .ok (.aload_n 0, 1) := by decide +kernel
theorem dX3_seek_88 : decode cX3_seek 88 = .ok (.iconst 1, 1) := by decide +kernel
theorem dX3_seek_89 : decode cX3_seek 89 = .ok (.putfield 95, 3) := by decide +kernel
theorem dX3_seek_92 : decode cX3_seek 92 = .ok (.return_, 1) := by decide +kernel
theorem dX3_seek_93 : decode cX3_seek 93 = .ok (.aload_n 0, 1) := by decide +kernel
theorem dX3_seek_94 : decode cX3_seek 94 = .ok (.dup, 1) := by decide +kernel
theorem dX3_seek_95 : decode cX3_seek 95 = .ok (.getfield 98, 3) := by decide +kernel
theorem dX3_seek_98 : decode cX3_seek 98 = .ok (.iconst 1, 1) := by decide +kernel
theorem dX3_seek_99 : decode cX3_seek 99 = .ok (.iadd, 1) := by decide +kernel
theorem dX3_seek_100 : decode cX3_seek 100 = .ok (.putfield 98, 3) := by decide +kernel
theorem dX3_seek_103 : decode cX3_seek 103 = .ok (.iload_n 2, 1) := by decide +kernel
theorem dX3_seek_104 : decode cX3_seek 104 = .ok (.aload_n 0, 1) := by decide +kernel
theorem dX3_seek_105 : decode cX3_seek 105 = .ok (.getfield 68, 3) := by decide +kernel
theorem dX3_seek_108 : decode cX3_seek 108 = .ok (.if_icmp .ne 10, 3) := by decide +kernel
theorem dX3_seek_111 : decode cX3_seek 111 = .ok (.aload_n 0, 1) := by decide +kernel
theorem dX3_seek_112 : decode cX3_seek 112 = .ok (.invokevirtual 101, 3) := by decide +kernel
theorem dX3_seek_115 : decode cX3_seek 115 = .ok (.goto (-79), 3) := by decide +kernel
theorem dX3_seek_118 : decode cX3_seek 118 = .ok (.aload_n 0, 1) := by decide +kernel
theorem dX3_seek_119 : decode cX3_seek 119 = .ok (.getfield 44, 3) := by decide +kernel
theorem dX3_seek_122 : decode cX3_seek 122 = .ok (.iload_n 2, 1) := by decide +kernel
theorem dX3_seek_123 : decode cX3_seek 123 = .ok (.iconst (-1), 1) := by decide +kernel
theorem dX3_seek_124 : decode cX3_seek 124 = .ok (.iastore, 1) := by decide +kernel
theorem dX3_seek_125 : decode cX3_seek 125 = .ok (.iinc 2 1, 3) := by decide +kernel
theorem dX3_seek_128 : decode cX3_seek 128 = .ok (.goto (-92), 3) := by decide +kernel
theorem dX3_seek_131 : decode cX3_seek 131 = .ok (.return_, 1) := by decide +kernel
theorem dX3_run_0 : decode cX3_run 0 = .ok (.aload_n 0, 1) := by decide +kernel
theorem dX3_run_1 : decode cX3_run 1 = .ok (.iload_n 1, 1) := by decide +kernel
theorem dX3_run_2 : decode cX3_run 2 = .ok (.iconst 0, 1) := by decide +kernel
theorem dX3_run_3 : decode cX3_run 3 = .ok (.sipush 20000, 3) := by decide +kernel
theorem dX3_run_6 : decode cX3_run 6 = .ok (.invokestatic 60, 3) := by decide +kernel
theorem dX3_run_9 : decode cX3_run 9 = .ok (.ifCond .eq 7, 3) := by decide +kernel
theorem dX3_run_12 : decode cX3_run 12 = .ok (.iconst 0, 1) := by decide +kernel
theorem dX3_run_13 : decode cX3_run 13 = .ok (.goto 4, 3) := by decide +kernel
theorem dX3_run_16 : decode cX3_run 16 = .ok (.iconst 1, 1) := by decide +kernel
theorem dX3_run_17 : decode cX3_run 17 = .ok (.putfield 50, 3) := by decide +kernel
theorem dX3_run_20 : decode cX3_run 20 = .ok (.aload_n 0, 1) := by decide +kernel
theorem dX3_run_21 : decode cX3_run 21 = .ok (.getfield 50, 3) := by decide +kernel
theorem dX3_run_24 : decode cX3_run 24 = .ok (.ifCond .le 5, 3) := by decide +kernel
theorem dX3_run_27 : decode cX3_run 27 = .ok (.iconst 0, 1) := by decide +kernel
theorem dX3_run_28 : decode cX3_run 28 = .ok (.ireturn, 1) := by decide +kernel
theorem dX3_run_29 : decode cX3_run 29 = .ok (.aload_n 0, 1) := by decide +kernel
theorem dX3_run_30 : decode cX3_run 30 = .ok (.iload_n 1, 1) := by decide +kernel
theorem dX3_run_31 : decode cX3_run 31 = .ok (.invokevirtual 107, 3) := by decide +kernel
theorem dX3_run_34 : decode cX3_run 34 = .ok (.aload_n 0, 1) := by decide +kernel
theorem dX3_run_35 : decode cX3_run 35 = .ok (.iconst 1, 1) := by decide +kernel
theorem dX3_run_36 : decode cX3_run 36 = .ok (.putfield 53, 3) := by decide +kernel
theorem dX3_run_39 : decode cX3_run 39 = .ok (.aload_n 0, 1) := by decide +kernel
theorem dX3_run_40 : decode cX3_run 40 = .ok (.aload_n 0, 1) := by decide +kernel
theorem dX3_run_41 : decode cX3_run 41 = .ok (.getfield 89, 3) := by decide +kernel
theorem dX3_run_44 : decode cX3_run 44 = .ok (.putfield 57, 3) := by decide +kernel
theorem dX3_run_47 : decode cX3_run 47 = .ok (.aload_n 0, 1) := by decide +kernel
theorem dX3_run_48 : decode cX3_run 48 = .ok (.aload_n 0, 1) := by decide +kernel
theorem dX3_run_49 : decode cX3_run 49 = .ok (.getfield 95, 3) := by decide +kernel
theorem dX3_run_52 : decode cX3_run 52 = .ok (.putfield 111, 3) := by decide +kernel
theorem dX3_run_55 : decode cX3_run 55 = .ok (.aload_n 0, 1) := by decide +kernel
theorem dX3_run_56 : decode cX3_run 56 = .ok (.aload_n 0, 1) := by decide +kernel
theorem dX3_run_57 : decode cX3_run 57 = .ok (.getfield 98, 3) := by decide +kernel
theorem dX3_run_60 : decode cX3_run 60 = .ok (.putfield 114, 3) := by decide +kernel
theorem dX3_run_63 : decode cX3_run 63 = .ok (.aload_n 0, 1) := by decide +kernel
theorem dX3_run_64 : decode cX3_run 64 = .ok (.aload_n 0, 1) := by decide +kernel
theorem dX3_run_65 : decode cX3_run 65 = .ok (.getfield 92, 3) := by decide +kernel
theorem dX3_run_68 : decode cX3_run 68 = .ok (.putfield 117, 3) := by decide +kernel
theorem dX3_run_71 : decode cX3_run 71 = .ok (.iconst 0, 1) := by decide +kernel
theorem dX3_run_72 : decode cX3_run 72 = .ok (.istore_n 2, 1) := by decide +kernel
theorem dX3_run_73 : decode cX3_run 73 = .ok (.iload_n 2, 1) := by decide +kernel
theorem dX3_run_74 : decode cX3_run 74 = .ok (.bipush 6, 2) := by decide +kernel
theorem dX3_run_76 : decode cX3_run 76 = .ok (.if_icmp .ge 21, 3) := by decide +kernel
theorem dX3_run_79 : decode cX3_run 79 = .ok (.aload_n 0, 1) := by decide +kernel
theorem dX3_run_80 : decode cX3_run 80 = .ok (.getfield 41, 3) := by decide +kernel
theorem dX3_run_83 : decode cX3_run 83 = .ok (.iload_n 2, 1) := by decide +kernel
theorem dX3_run_84 : decode cX3_run 84 = .ok (.aload_n 0, 1) := by decide +kernel
theorem dX3_run_85 : decode cX3_run 85 = .ok (.getfield 47, 3) := by decide +kernel
theorem dX3_run_88 : decode cX3_run 88 = .ok (.iload_n 2, 1) := by decide +kernel
theorem dX3_run_89 : decode cX3_run 89 = .ok (.iaload, 1) := by decide +kernel
theorem dX3_run_90 : decode cX3_run 90 = .ok (.iastore, 1) := by decide +kernel
theorem dX3_run_91 : decode cX3_run 91 = .ok (.iinc 2 1, 3) := by decide +kernel
theorem dX3_run_94 : decode cX3_run 94 = .ok (.goto (-21), 3) := by decide +kernel
theorem dX3_run_97 : decode cX3_run 97 = .ok (.aload_n 0, 1) := by decide +kernel
theorem dX3_run_98 : decode cX3_run 98 = .ok (.getfield 111, 3) := by decide +kernel
theorem dX3_run_101 : decode cX3_run 101 = .ok (.ifCond .eq 7, 3) := by decide +kernel
theorem dX3_run_104 : decode cX3_run 104 = .ok (.iconst 2, 1) := by decide +kernel
theorem dX3_run_105 : decode cX3_run 105 = .ok (.goto 15, 3) := by decide +kernel
theorem dX3_run_108 : decode cX3_run 108 = .ok (.aload_n 0, 1) := by decide +kernel
theorem dX3_run_109 : decode cX3_run 109 = .ok (.getfield 57, 3) := by decide +kernel
theorem dX3_run_112 : decode cX3_run 112 = .ok (.ifCond .eq 7, 3) := by decide +kernel
theorem dX3_run_115 : decode cX3_run 115 = .ok (.iconst 0, 1) := by decide +kernel
theorem dX3_run_116 : decode cX3_run 116 = .ok (.goto 4, 3) := by decide +kernel
theorem dX3_run_119 : decode cX3_run 119 = .ok (.iconst 1, 1) := by decide +kernel
theorem dX3_run_120 : decode cX3_run 120 = .ok (.ireturn, 1) := by decide +kernel
theorem dX3_search_0 : decode cX3_search 0 = .ok (.aload_n 0, 1) := by decide +kernel
theorem dX3_search_1 : decode cX3_search 1 = .ok (.iload_n 1, 1) := by decide +kernel
theorem dX3_search_2 : decode cX3_search 2 = .ok (.iconst 0, 1) := by decide +kernel
theorem dX3_search_3 : decode cX3_search 3 = .ok (.iconst 3, 1) := by decide +kernel
theorem dX3_search_4 : decode cX3_search 4 = .ok (.invokestatic 60, 3) := by decide +kernel
theorem dX3_search_7 : decode cX3_search 7 = .ok (.ifCond .ne 7, 3) := by decide +kernel
theorem dX3_search_10 : decode cX3_search 10 = .ok (.iconst 1, 1) := by decide +kernel
theorem dX3_search_11 : decode cX3_search 11 = .ok (.goto 15, 3) := by decide +kernel
theorem dX3_search_14 : decode cX3_search 14 = .ok (.aload_n 0, 1) := by decide +kernel
theorem dX3_search_15 : decode cX3_search 15 = .ok (.getfield 53, 3) := by decide +kernel
theorem dX3_search_18 : decode cX3_search 18 = .ok (.ifCond .ne 7, 3) := by decide +kernel
theorem dX3_search_21 : decode cX3_search 21 = .ok (.iconst 2, 1) := by decide +kernel
theorem dX3_search_22 : decode cX3_search 22 = .ok (.goto 4, 3) := by decide +kernel
theorem dX3_search_25 : decode cX3_search 25 = .ok (.iconst 0, 1) := by decide +kernel
theorem dX3_search_26 : decode cX3_search 26 = .ok (.putfield 50, 3) := by decide +kernel
theorem dX3_search_29 : decode cX3_search 29 = .ok (.aload_n 0, 1) := by decide +kernel
theorem dX3_search_30 : decode cX3_search 30 = .ok (.getfield 50, 3) := by decide +kernel
theorem dX3_search_33 : decode cX3_search 33 = .ok (.ifCond .le 5, 3) := by decide +kernel
theorem dX3_search_36 : decode cX3_search 36 = .ok (.iconst 0, 1) := by decide +kernel
theorem dX3_search_37 : decode cX3_search 37 = .ok (.ireturn, 1) := by decide +kernel
theorem dX3_search_38 : decode cX3_search 38 = .ok (.iload_n 1, 1) := by decide +kernel
theorem dX3_search_39 : decode cX3_search 39 = .ok (.ifCond .ne 10, 3) := by decide +kernel
theorem dX3_search_42 : decode cX3_search 42 = .ok (.aload_n 0, 1) := by decide +kernel
theorem dX3_search_43 : decode cX3_search 43 = .ok (.getfield 114, 3) := by decide +kernel
theorem dX3_search_46 : decode cX3_search 46 = .ok (.goto 47, 3) := by decide +kernel
theorem dX3_search_49 : decode cX3_search 49 = .ok (.iload_n 1, 1) := by decide +kernel
theorem dX3_search_50 : decode cX3_search 50 = .ok (.iconst 1, 1) := by decide +kernel
theorem dX3_search_51 : decode cX3_search 51 = .ok (.if_icmp .ne 18, 3) := by decide +kernel
theorem dX3_search_54 : decode cX3_search 54 = .ok (.aload_n 0, 1) := by decide +kernel
theorem dX3_search_55 : decode cX3_search 55 = .ok (.getfield 111, 3) := by decide +kernel
theorem dX3_search_58 : decode cX3_search 58 = .ok (.ifCond .eq 7, 3) := by decide +kernel
theorem dX3_search_61 : decode cX3_search 61 = .ok (.iconst 0, 1) := by decide +kernel
theorem dX3_search_62 : decode cX3_search 62 = .ok (.goto 31, 3) := by decide +kernel
theorem dX3_search_65 : decode cX3_search 65 = .ok (.iconst 1, 1) := by decide +kernel
theorem dX3_search_66 : decode cX3_search 66 = .ok (.goto 27, 3) := by decide +kernel
theorem dX3_search_69 : decode cX3_search 69 = .ok (.iload_n 1, 1) := by decide +kernel
theorem dX3_search_70 : decode cX3_search 70 = .ok (.iconst 2, 1) := by decide +kernel
theorem dX3_search_71 : decode cX3_search 71 = .ok (.if_icmp .ne 18, 3) := by decide +kernel
theorem dX3_search_74 : decode cX3_search 74 = .ok (.aload_n 0, 1) := by decide +kernel
theorem dX3_search_75 : decode cX3_search 75 = .ok (.getfield 57, 3) := by decide +kernel
theorem dX3_search_78 : decode cX3_search 78 = .ok (.ifCond .eq 7, 3) := by decide +kernel
theorem dX3_search_81 : decode cX3_search 81 = .ok (.iconst 1, 1) := by decide +kernel
theorem dX3_search_82 : decode cX3_search 82 = .ok (.goto 11, 3) := by decide +kernel
theorem dX3_search_85 : decode cX3_search 85 = .ok (.iconst 0, 1) := by decide +kernel
theorem dX3_search_86 : decode cX3_search 86 = .ok (.goto 7, 3) := by decide +kernel
theorem dX3_search_89 : decode cX3_search 89 = .ok (.aload_n 0, 1) := by decide +kernel
theorem dX3_search_90 : decode cX3_search 90 = .ok (.invokevirtual 120, 3) := by decide +kernel
theorem dX3_search_93 : decode cX3_search 93 = .ok (.ireturn, 1) := by decide +kernel
theorem dX3_used_0 : decode cX3_used 0 = .ok (.aload_n 0, 1) := by decide +kernel
theorem dX3_used_1 : decode cX3_used 1 = .ok (.aload_n 0, 1) := by decide +kernel
theorem dX3_used_2 : decode cX3_used 2 = .ok (.iload_n 1, 1) := by decide +kernel
theorem dX3_used_3 : decode cX3_used 3 = .ok (.invokevirtual 71, 3) := by decide +kernel
theorem dX3_used_6 : decode cX3_used 6 = .ok (.ifCond .ne 7, 3) := by decide +kernel
theorem dX3_used_9 : decode cX3_used 9 = .ok (.iconst 1, 1) := by decide +kernel
theorem dX3_used_10 : decode cX3_used 10 = .ok (.goto 15, 3) := by decide +kernel
theorem dX3_used_13 : decode cX3_used 13 = .ok (.aload_n 0, 1) := by decide +kernel
theorem dX3_used_14 : decode cX3_used 14 = .ok (.getfield 57, 3) := by decide +kernel
theorem dX3_used_17 : decode cX3_used 17 = .ok (.ifCond .ne 7, 3) := by decide +kernel
theorem dX3_used_20 : decode cX3_used 20 = .ok (.iconst 2, 1) := by decide +kernel
theorem dX3_used_21 : decode cX3_used 21 = .ok (.goto 4, 3) := by decide +kernel
theorem dX3_used_24 : decode cX3_used 24 = .ok (.iconst 0, 1) := by decide +kernel
theorem dX3_used_25 : decode cX3_used 25 = .ok (.putfield 50, 3) := by decide +kernel
theorem dX3_used_28 : decode cX3_used 28 = .ok (.aload_n 0, 1) := by decide +kernel
theorem dX3_used_29 : decode cX3_used 29 = .ok (.getfield 50, 3) := by decide +kernel
theorem dX3_used_32 : decode cX3_used 32 = .ok (.ifCond .le 7, 3) := by decide +kernel
theorem dX3_used_35 : decode cX3_used 35 = .ok (.iconst 0, 1) := by decide +kernel
theorem dX3_used_36 : decode cX3_used 36 = .ok (.goto 9, 3) := by decide +kernel
theorem dX3_used_39 : decode cX3_used 39 = .ok (.aload_n 0, 1) := by decide +kernel
theorem dX3_used_40 : decode cX3_used 40 = .ok (.getfield 41, 3) := by decide +kernel
theorem dX3_used_43 : decode cX3_used 43 = .ok (.iload_n 1, 1) := by decide +kernel
theorem dX3_used_44 : decode cX3_used 44 = .ok (.iaload, 1) := by decide +kernel
theorem dX3_used_45 : decode cX3_used 45 = .ok (.ireturn, 1) := by decide +kernel
theorem dX3_best_0 : decode cX3_best 0 = .ok (.aload_n 0, 1) := by decide +kernel
theorem dX3_best_1 : decode cX3_best 1 = .ok (.iload_n 1, 1) := by decide +kernel
theorem dX3_best_2 : decode cX3_best 2 = .ok (.iconst 0, 1) := by decide +kernel
theorem dX3_best_3 : decode cX3_best 3 = .ok (.iconst 2, 1) := by decide +kernel
theorem dX3_best_4 : decode cX3_best 4 = .ok (.invokestatic 60, 3) := by decide +kernel
theorem dX3_best_7 : decode cX3_best 7 = .ok (.ifCond .ne 7, 3) := by decide +kernel
theorem dX3_best_10 : decode cX3_best 10 = .ok (.iconst 1, 1) := by decide +kernel
theorem dX3_best_11 : decode cX3_best 11 = .ok (.goto 15, 3) := by decide +kernel
theorem dX3_best_14 : decode cX3_best 14 = .ok (.aload_n 0, 1) := by decide +kernel
theorem dX3_best_15 : decode cX3_best 15 = .ok (.getfield 57, 3) := by decide +kernel
theorem dX3_best_18 : decode cX3_best 18 = .ok (.ifCond .ne 7, 3) := by decide +kernel
theorem dX3_best_21 : decode cX3_best 21 = .ok (.iconst 2, 1) := by decide +kernel
theorem dX3_best_22 : decode cX3_best 22 = .ok (.goto 4, 3) := by decide +kernel
theorem dX3_best_25 : decode cX3_best 25 = .ok (.iconst 0, 1) := by decide +kernel
theorem dX3_best_26 : decode cX3_best 26 = .ok (.putfield 50, 3) := by decide +kernel
theorem dX3_best_29 : decode cX3_best 29 = .ok (.aload_n 0, 1) := by decide +kernel
theorem dX3_best_30 : decode cX3_best 30 = .ok (.getfield 50, 3) := by decide +kernel
theorem dX3_best_33 : decode cX3_best 33 = .ok (.ifCond .le 5, 3) := by decide +kernel
theorem dX3_best_36 : decode cX3_best 36 = .ok (.iconst 0, 1) := by decide +kernel
theorem dX3_best_37 : decode cX3_best 37 = .ok (.ireturn, 1) := by decide +kernel
theorem dX3_best_38 : decode cX3_best 38 = .ok (.iload_n 1, 1) := by decide +kernel
theorem dX3_best_39 : decode cX3_best 39 = .ok (.iconst 2, 1) := by decide +kernel
theorem dX3_best_40 : decode cX3_best 40 = .ok (.if_icmp .ge 27, 3) := by decide +kernel
theorem dX3_best_43 : decode cX3_best 43 = .ok (.iload_n 1, 1) := by decide +kernel
theorem dX3_best_44 : decode cX3_best 44 = .ok (.ifCond .ne 10, 3) := by decide +kernel
theorem dX3_best_47 : decode cX3_best 47 = .ok (.aload_n 0, 1) := by decide +kernel
theorem dX3_best_48 : decode cX3_best 48 = .ok (.getfield 117, 3) := by decide +kernel
theorem dX3_best_51 : decode cX3_best 51 = .ok (.goto 15, 3) := by decide +kernel
theorem dX3_best_54 : decode cX3_best 54 = .ok (.aload_n 0, 1) := by decide +kernel
theorem dX3_best_55 : decode cX3_best 55 = .ok (.aload_n 0, 1) := by decide +kernel
theorem dX3_best_56 : decode cX3_best 56 = .ok (.getfield 41, 3) := by decide +kernel
theorem dX3_best_59 : decode cX3_best 59 = .ok (.aload_n 0, 1) := by decide +kernel
theorem dX3_best_60 : decode cX3_best 60 = .ok (.getfield 68, 3) := by decide +kernel
theorem dX3_best_63 : decode cX3_best 63 = .ok (.invokevirtual 78, 3) := by decide +kernel
theorem dX3_best_66 : decode cX3_best 66 = .ok (.ireturn, 1) := by decide +kernel
theorem dX3_best_67 : decode cX3_best 67 = .ok (.iconst 0, 1) := by decide +kernel
theorem dX3_best_68 : decode cX3_best 68 = .ok (.istore_n 2, 1) := by decide +kernel
theorem dX3_best_69 : decode cX3_best 69 = .ok (.iconst 0, 1) := by decide +kernel
theorem dX3_best_70 : decode cX3_best 70 = .ok (.istore_n 3, 1) := by decide +kernel
theorem dX3_best_71 : decode cX3_best 71 = .ok (.iload_n 3, 1) := by decide +kernel
theorem dX3_best_72 : decode cX3_best 72 = .ok (.aload_n 0, 1) := by decide +kernel
theorem dX3_best_73 : decode cX3_best 73 = .ok (.getfield 68, 3) := by decide +kernel
theorem dX3_best_76 : decode cX3_best 76 = .ok (.if_icmp .ge 26, 3) := by decide +kernel
theorem dX3_best_79 : decode cX3_best 79 = .ok (.iload_n 2, 1) := by decide +kernel
theorem dX3_best_80 : decode cX3_best 80 = .ok (.aload_n 0, 1) := by decide +kernel
theorem dX3_best_81 : decode cX3_best 81 = .ok (.getfield 41, 3) := by decide +kernel
theorem dX3_best_84 : decode cX3_best 84 = .ok (.iload_n 3, 1) := by decide +kernel
theorem dX3_best_85 : decode cX3_best 85 = .ok (.iaload, 1) := by decide +kernel
theorem dX3_best_86 : decode cX3_best 86 = .ok (.ifCond .le 7, 3) := by decide +kernel
theorem dX3_best_89 : decode cX3_best 89 = .ok (.iconst 1, 1) := by decide +kernel
theorem dX3_best_90 : decode cX3_best 90 = .ok (.goto 4, 3) := by decide +kernel
theorem dX3_best_93 : decode cX3_best 93 = .ok (.iconst 0, 1) := by decide +kernel
theorem dX3_best_94 : decode cX3_best 94 = .ok (.iadd, 1) := by decide +kernel
theorem dX3_best_95 : decode cX3_best 95 = .ok (.istore_n 2, 1) := by decide +kernel
theorem dX3_best_96 : decode cX3_best 96 = .ok (.iinc 3 1, 3) := by decide +kernel
theorem dX3_best_99 : decode cX3_best 99 = .ok (.goto (-28), 3) := by decide +kernel
theorem dX3_best_102 : decode cX3_best 102 = .ok (.iload_n 2, 1) := by decide +kernel
theorem dX3_best_103 : decode cX3_best 103 = .ok (.ireturn, 1) := by decide +kernel
theorem dX3_made_0 : decode cX3_made 0 = .ok (.aload_n 0, 1) := by decide +kernel
theorem dX3_made_1 : decode cX3_made 1 = .ok (.iload_n 1, 1) := by decide +kernel
theorem dX3_made_2 : decode cX3_made 2 = .ok (.iconst 0, 1) := by decide +kernel
theorem dX3_made_3 : decode cX3_made 3 = .ok (.iconst 3, 1) := by decide +kernel
theorem dX3_made_4 : decode cX3_made 4 = .ok (.invokestatic 60, 3) := by decide +kernel
theorem dX3_made_7 : decode cX3_made 7 = .ok (.ifCond .ne 7, 3) := by decide +kernel
theorem dX3_made_10 : decode cX3_made 10 = .ok (.iconst 1, 1) := by decide +kernel
theorem dX3_made_11 : decode cX3_made 11 = .ok (.goto 15, 3) := by decide +kernel
theorem dX3_made_14 : decode cX3_made 14 = .ok (.aload_n 0, 1) := by decide +kernel
theorem dX3_made_15 : decode cX3_made 15 = .ok (.getfield 57, 3) := by decide +kernel
theorem dX3_made_18 : decode cX3_made 18 = .ok (.ifCond .ne 7, 3) := by decide +kernel
theorem dX3_made_21 : decode cX3_made 21 = .ok (.iconst 2, 1) := by decide +kernel
theorem dX3_made_22 : decode cX3_made 22 = .ok (.goto 4, 3) := by decide +kernel
theorem dX3_made_25 : decode cX3_made 25 = .ok (.iconst 0, 1) := by decide +kernel
theorem dX3_made_26 : decode cX3_made 26 = .ok (.putfield 50, 3) := by decide +kernel
theorem dX3_made_29 : decode cX3_made 29 = .ok (.aload_n 0, 1) := by decide +kernel
theorem dX3_made_30 : decode cX3_made 30 = .ok (.getfield 50, 3) := by decide +kernel
theorem dX3_made_33 : decode cX3_made 33 = .ok (.ifCond .le 7, 3) := by decide +kernel
theorem dX3_made_36 : decode cX3_made 36 = .ok (.iconst 0, 1) := by decide +kernel
theorem dX3_made_37 : decode cX3_made 37 = .ok (.goto 12, 3) := by decide +kernel
theorem dX3_made_40 : decode cX3_made 40 = .ok (.aload_n 0, 1) := by decide +kernel
theorem dX3_made_41 : decode cX3_made 41 = .ok (.aload_n 0, 1) := by decide +kernel
theorem dX3_made_42 : decode cX3_made 42 = .ok (.getfield 41, 3) := by decide +kernel
theorem dX3_made_45 : decode cX3_made 45 = .ok (.iload_n 1, 1) := by decide +kernel
theorem dX3_made_46 : decode cX3_made 46 = .ok (.invokevirtual 82, 3) := by decide +kernel
theorem dX3_made_49 : decode cX3_made 49 = .ok (.ireturn, 1) := by decide +kernel
theorem dX3_saw_0 : decode cX3_saw 0 = .ok (.aload_n 0, 1) := by decide +kernel
theorem dX3_saw_1 : decode cX3_saw 1 = .ok (.aload_n 0, 1) := by decide +kernel
theorem dX3_saw_2 : decode cX3_saw 2 = .ok (.getfield 57, 3) := by decide +kernel
theorem dX3_saw_5 : decode cX3_saw 5 = .ok (.ifCond .eq 7, 3) := by decide +kernel
theorem dX3_saw_8 : decode cX3_saw 8 = .ok (.iconst 0, 1) := by decide +kernel
theorem dX3_saw_9 : decode cX3_saw 9 = .ok (.goto 4, 3) := by decide +kernel
theorem dX3_saw_12 : decode cX3_saw 12 = .ok (.iconst 1, 1) := by decide +kernel
theorem dX3_saw_13 : decode cX3_saw 13 = .ok (.putfield 50, 3) := by decide +kernel
theorem dX3_saw_16 : decode cX3_saw 16 = .ok (.aload_n 0, 1) := by decide +kernel
theorem dX3_saw_17 : decode cX3_saw 17 = .ok (.getfield 50, 3) := by decide +kernel
theorem dX3_saw_20 : decode cX3_saw 20 = .ok (.ifCond .le 5, 3) := by decide +kernel
theorem dX3_saw_23 : decode cX3_saw 23 = .ok (.iconst 0, 1) := by decide +kernel
theorem dX3_saw_24 : decode cX3_saw 24 = .ok (.ireturn, 1) := by decide +kernel
theorem dX3_saw_25 : decode cX3_saw 25 = .ok (.iconst 0, 1) := by decide +kernel
theorem dX3_saw_26 : decode cX3_saw 26 = .ok (.istore_n 1, 1) := by decide +kernel
theorem dX3_saw_27 : decode cX3_saw 27 = .ok (.iload_n 1, 1) := by decide +kernel
theorem dX3_saw_28 : decode cX3_saw 28 = .ok (.iconst 4, 1) := by decide +kernel
theorem dX3_saw_29 : decode cX3_saw 29 = .ok (.if_icmp .ge 37, 3) := by decide +kernel
theorem dX3_saw_32 : decode cX3_saw 32 = .ok (.aload_n 0, 1) := by decide +kernel
theorem dX3_saw_33 : decode cX3_saw 33 = .ok (.aload_n 0, 1) := by decide +kernel
theorem dX3_saw_34 : decode cX3_saw 34 = .ok (.getfield 41, 3) := by decide +kernel
theorem dX3_saw_37 : decode cX3_saw 37 = .ok (.iload_n 1, 1) := by decide +kernel
theorem dX3_saw_38 : decode cX3_saw 38 = .ok (.invokevirtual 82, 3) := by decide +kernel
theorem dX3_saw_41 : decode cX3_saw 41 = .ok (.istore_n 2, 1) := by decide +kernel
theorem dX3_saw_42 : decode cX3_saw 42 = .ok (.aload_n 0, 1) := by decide +kernel
theorem dX3_saw_43 : decode cX3_saw 43 = .ok (.getfield 34, 3) := by decide +kernel
theorem dX3_saw_46 : decode cX3_saw 46 = .ok (.iload_n 1, 1) := by decide +kernel
theorem dX3_saw_47 : decode cX3_saw 47 = .ok (.iload_n 2, 1) := by decide +kernel
theorem dX3_saw_48 : decode cX3_saw 48 = .ok (.iload_n 2, 1) := by decide +kernel
theorem dX3_saw_49 : decode cX3_saw 49 = .ok (.aload_n 0, 1) := by decide +kernel
theorem dX3_saw_50 : decode cX3_saw 50 = .ok (.getfield 28, 3) := by decide +kernel
theorem dX3_saw_53 : decode cX3_saw 53 = .ok (.iload_n 1, 1) := by decide +kernel
theorem dX3_saw_54 : decode cX3_saw 54 = .ok (.iaload, 1) := by decide +kernel
theorem dX3_saw_55 : decode cX3_saw 55 = .ok (.invokestatic 85, 3) := by decide +kernel
theorem dX3_saw_58 : decode cX3_saw 58 = .ok (.isub, 1) := by decide +kernel
theorem dX3_saw_59 : decode cX3_saw 59 = .ok (.iastore, 1) := by decide +kernel
theorem dX3_saw_60 : decode cX3_saw 60 = .ok (.iinc 1 1, 3) := by decide +kernel
theorem dX3_saw_63 : decode cX3_saw 63 = .ok (.goto (-36), 3) := by decide +kernel
theorem dX3_saw_66 : decode cX3_saw 66 = .ok (.iconst 0, 1) := by decide +kernel
theorem dX3_saw_67 : decode cX3_saw 67 = .ok (.istore_n 1, 1) := by decide +kernel
theorem dX3_saw_68 : decode cX3_saw 68 = .ok (.iload_n 1, 1) := by decide +kernel
theorem dX3_saw_69 : decode cX3_saw 69 = .ok (.aload_n 0, 1) := by decide +kernel
theorem dX3_saw_70 : decode cX3_saw 70 = .ok (.getfield 68, 3) := by decide +kernel
theorem dX3_saw_73 : decode cX3_saw 73 = .ok (.if_icmp .ge 29, 3) := by decide +kernel
theorem dX3_saw_76 : decode cX3_saw 76 = .ok (.aload_n 0, 1) := by decide +kernel
theorem dX3_saw_77 : decode cX3_saw 77 = .ok (.getfield 7, 3) := by decide +kernel
theorem dX3_saw_80 : decode cX3_saw 80 = .ok (.aload_n 0, 1) := by decide +kernel
theorem dX3_saw_81 : decode cX3_saw 81 = .ok (.getfield 16, 3) := by decide +kernel
theorem dX3_saw_84 : decode cX3_saw 84 = .ok (.iload_n 1, 1) := by decide +kernel
theorem dX3_saw_85 : decode cX3_saw 85 = .ok (.iaload, 1) := by decide +kernel
theorem dX3_saw_86 : decode cX3_saw 86 = .ok (.dup2, 1) := by decide +kernel
theorem dX3_saw_87 : decode cX3_saw 87 = .ok (.iaload, 1) := by decide +kernel
theorem dX3_saw_88 : decode cX3_saw 88 = .ok (.aload_n 0, 1) := by decide +kernel
theorem dX3_saw_89 : decode cX3_saw 89 = .ok (.getfield 41, 3) := by decide +kernel
theorem dX3_saw_92 : decode cX3_saw 92 = .ok (.iload_n 1, 1) := by decide +kernel
theorem dX3_saw_93 : decode cX3_saw 93 = .ok (.iaload, 1) := by decide +kernel
theorem dX3_saw_94 : decode cX3_saw 94 = .ok (.isub, 1) := by decide +kernel
theorem dX3_saw_95 : decode cX3_saw 95 = .ok (.iastore, 1) := by decide +kernel
theorem dX3_saw_96 : decode cX3_saw 96 = .ok (.iinc 1 1, 3) := by decide +kernel
theorem dX3_saw_99 : decode cX3_saw 99 = .ok (.goto (-31), 3) := by decide +kernel
theorem dX3_saw_102 : decode cX3_saw 102 = .ok (.aload_n 0, 1) := by decide +kernel
theorem dX3_saw_103 : decode cX3_saw 103 = .ok (.dup, 1) := by decide +kernel
theorem dX3_saw_104 : decode cX3_saw 104 = .ok (.getfield 124, 3) := by decide +kernel
theorem dX3_saw_107 : decode cX3_saw 107 = .ok (.aload_n 0, 1) := by decide +kernel
theorem dX3_saw_108 : decode cX3_saw 108 = .ok (.getfield 117, 3) := by decide +kernel
theorem dX3_saw_111 : decode cX3_saw 111 = .ok (.iadd, 1) := by decide +kernel
theorem dX3_saw_112 : decode cX3_saw 112 = .ok (.putfield 124, 3) := by decide +kernel
theorem dX3_saw_115 : decode cX3_saw 115 = .ok (.aload_n 0, 1) := by decide +kernel
theorem dX3_saw_116 : decode cX3_saw 116 = .ok (.dup, 1) := by decide +kernel
theorem dX3_saw_117 : decode cX3_saw 117 = .ok (.getfield 127, 3) := by decide +kernel
theorem dX3_saw_120 : decode cX3_saw 120 = .ok (.iconst 1, 1) := by decide +kernel
theorem dX3_saw_121 : decode cX3_saw 121 = .ok (.iadd, 1) := by decide +kernel
theorem dX3_saw_122 : decode cX3_saw 122 = .ok (.putfield 127, 3) := by decide +kernel
theorem dX3_saw_125 : decode cX3_saw 125 = .ok (.aload_n 0, 1) := by decide +kernel
theorem dX3_saw_126 : decode cX3_saw 126 = .ok (.invokevirtual 65, 3) := by decide +kernel
theorem dX3_saw_129 : decode cX3_saw 129 = .ok (.aload_n 0, 1) := by decide +kernel
theorem dX3_saw_130 : decode cX3_saw 130 = .ok (.getfield 117, 3) := by decide +kernel
theorem dX3_saw_133 : decode cX3_saw 133 = .ok (.ireturn, 1) := by decide +kernel
theorem dX3_mill_0 : decode cX3_mill 0 = .ok (.aload_n 0, 1) := by decide +kernel
theorem dX3_mill_1 : decode cX3_mill 1 = .ok (.iload_n 1, 1) := by decide +kernel
theorem dX3_mill_2 : decode cX3_mill 2 = .ok (.iconst 0, 1) := by decide +kernel
theorem dX3_mill_3 : decode cX3_mill 3 = .ok (.iconst 5, 1) := by decide +kernel
theorem dX3_mill_4 : decode cX3_mill 4 = .ok (.invokestatic 60, 3) := by decide +kernel
theorem dX3_mill_7 : decode cX3_mill 7 = .ok (.ifCond .eq 7, 3) := by decide +kernel
theorem dX3_mill_10 : decode cX3_mill 10 = .ok (.iconst 0, 1) := by decide +kernel
theorem dX3_mill_11 : decode cX3_mill 11 = .ok (.goto 4, 3) := by decide +kernel
theorem dX3_mill_14 : decode cX3_mill 14 = .ok (.iconst 1, 1) := by decide +kernel
theorem dX3_mill_15 : decode cX3_mill 15 = .ok (.putfield 50, 3) := by decide +kernel
theorem dX3_mill_18 : decode cX3_mill 18 = .ok (.aload_n 0, 1) := by decide +kernel
theorem dX3_mill_19 : decode cX3_mill 19 = .ok (.getfield 50, 3) := by decide +kernel
theorem dX3_mill_22 : decode cX3_mill 22 = .ok (.ifCond .le 5, 3) := by decide +kernel
theorem dX3_mill_25 : decode cX3_mill 25 = .ok (.iconst 0, 1) := by decide +kernel
theorem dX3_mill_26 : decode cX3_mill 26 = .ok (.ireturn, 1) := by decide +kernel
theorem dX3_mill_27 : decode cX3_mill 27 = .ok (.iload_n 1, 1) := by decide +kernel
theorem dX3_mill_28 : decode cX3_mill 28 = .ok (.ifCond .ne 10, 3) := by decide +kernel
theorem dX3_mill_31 : decode cX3_mill 31 = .ok (.aload_n 0, 1) := by decide +kernel
theorem dX3_mill_32 : decode cX3_mill 32 = .ok (.getfield 127, 3) := by decide +kernel
theorem dX3_mill_35 : decode cX3_mill 35 = .ok (.goto 23, 3) := by decide +kernel
theorem dX3_mill_38 : decode cX3_mill 38 = .ok (.iload_n 1, 1) := by decide +kernel
theorem dX3_mill_39 : decode cX3_mill 39 = .ok (.iconst 1, 1) := by decide +kernel
theorem dX3_mill_40 : decode cX3_mill 40 = .ok (.if_icmp .ne 10, 3) := by decide +kernel
theorem dX3_mill_43 : decode cX3_mill 43 = .ok (.aload_n 0, 1) := by decide +kernel
theorem dX3_mill_44 : decode cX3_mill 44 = .ok (.getfield 124, 3) := by decide +kernel
theorem dX3_mill_47 : decode cX3_mill 47 = .ok (.goto 11, 3) := by decide +kernel
theorem dX3_mill_50 : decode cX3_mill 50 = .ok (.aload_n 0, 1) := by decide +kernel
theorem dX3_mill_51 : decode cX3_mill 51 = .ok (.getfield 34, 3) := by decide +kernel
theorem dX3_mill_54 : decode cX3_mill 54 = .ok (.iload_n 1, 1) := by decide +kernel
theorem dX3_mill_55 : decode cX3_mill 55 = .ok (.iconst 2, 1) := by decide +kernel
theorem dX3_mill_56 : decode cX3_mill 56 = .ok (.isub, 1) := by decide +kernel
theorem dX3_mill_57 : decode cX3_mill 57 = .ok (.iaload, 1) := by decide +kernel
theorem dX3_mill_58 : decode cX3_mill 58 = .ok (.ireturn, 1) := by decide +kernel
theorem dX3_cost_0 : decode cX3_cost 0 = .ok (.aload_n 0, 1) := by decide +kernel
theorem dX3_cost_1 : decode cX3_cost 1 = .ok (.iload_n 1, 1) := by decide +kernel
theorem dX3_cost_2 : decode cX3_cost 2 = .ok (.iconst 0, 1) := by decide +kernel
theorem dX3_cost_3 : decode cX3_cost 3 = .ok (.iconst 3, 1) := by decide +kernel
theorem dX3_cost_4 : decode cX3_cost 4 = .ok (.invokestatic 60, 3) := by decide +kernel
theorem dX3_cost_7 : decode cX3_cost 7 = .ok (.ifCond .ne 7, 3) := by decide +kernel
theorem dX3_cost_10 : decode cX3_cost 10 = .ok (.iconst 1, 1) := by decide +kernel
theorem dX3_cost_11 : decode cX3_cost 11 = .ok (.goto 19, 3) := by decide +kernel
theorem dX3_cost_14 : decode cX3_cost 14 = .ok (.iload_n 2, 1) := by decide +kernel
theorem dX3_cost_15 : decode cX3_cost 15 = .ok (.iconst 0, 1) := by decide +kernel
theorem dX3_cost_16 : decode cX3_cost 16 = .ok (.sipush 20000, 3) := by decide +kernel
theorem dX3_cost_19 : decode cX3_cost 19 = .ok (.invokestatic 60, 3) := by decide +kernel
theorem dX3_cost_22 : decode cX3_cost 22 = .ok (.ifCond .ne 7, 3) := by decide +kernel
theorem dX3_cost_25 : decode cX3_cost 25 = .ok (.iconst 2, 1) := by decide +kernel
theorem dX3_cost_26 : decode cX3_cost 26 = .ok (.goto 4, 3) := by decide +kernel
theorem dX3_cost_29 : decode cX3_cost 29 = .ok (.iconst 0, 1) := by decide +kernel
theorem dX3_cost_30 : decode cX3_cost 30 = .ok (.putfield 50, 3) := by decide +kernel
theorem dX3_cost_33 : decode cX3_cost 33 = .ok (.aload_n 0, 1) := by decide +kernel
theorem dX3_cost_34 : decode cX3_cost 34 = .ok (.getfield 50, 3) := by decide +kernel
theorem dX3_cost_37 : decode cX3_cost 37 = .ok (.ifCond .le 5, 3) := by decide +kernel
theorem dX3_cost_40 : decode cX3_cost 40 = .ok (.iconst 0, 1) := by decide +kernel
theorem dX3_cost_41 : decode cX3_cost 41 = .ok (.ireturn, 1) := by decide +kernel
theorem dX3_cost_42 : decode cX3_cost 42 = .ok (.aload_n 0, 1) := by decide +kernel
theorem dX3_cost_43 : decode cX3_cost 43 = .ok (.iload_n 2, 1) := by decide +kernel
theorem dX3_cost_44 : decode cX3_cost 44 = .ok (.invokevirtual 107, 3) := by decide +kernel
theorem dX3_cost_47 : decode cX3_cost 47 = .ok (.aload_n 0, 1) := by decide +kernel
theorem dX3_cost_48 : decode cX3_cost 48 = .ok (.getfield 89, 3) := by decide +kernel
theorem dX3_cost_51 : decode cX3_cost 51 = .ok (.istore_n 3, 1) := by decide +kernel
theorem dX3_cost_52 : decode cX3_cost 52 = .ok (.aload_n 0, 1) := by decide +kernel
theorem dX3_cost_53 : decode cX3_cost 53 = .ok (.getfield 92, 3) := by decide +kernel
theorem dX3_cost_56 : decode cX3_cost 56 = .ok (.istore 4, 2) := by decide +kernel
theorem dX3_cost_58 : decode cX3_cost 58 = .ok (.aload_n 0, 1) := by decide +kernel
theorem dX3_cost_59 : decode cX3_cost 59 = .ok (.getfield 31, 3) := by decide +kernel
theorem dX3_cost_62 : decode cX3_cost 62 = .ok (.iload_n 1, 1) := by decide +kernel
theorem dX3_cost_63 : decode cX3_cost 63 = .ok (.iaload, 1) := by decide +kernel
theorem dX3_cost_64 : decode cX3_cost 64 = .ok (.istore 5, 2) := by decide +kernel
theorem dX3_cost_66 : decode cX3_cost 66 = .ok (.aload_n 0, 1) := by decide +kernel
theorem dX3_cost_67 : decode cX3_cost 67 = .ok (.getfield 25, 3) := by decide +kernel
theorem dX3_cost_70 : decode cX3_cost 70 = .ok (.iload_n 1, 1) := by decide +kernel
theorem dX3_cost_71 : decode cX3_cost 71 = .ok (.iaload, 1) := by decide +kernel
theorem dX3_cost_72 : decode cX3_cost 72 = .ok (.istore 6, 2) := by decide +kernel
theorem dX3_cost_74 : decode cX3_cost 74 = .ok (.aload_n 0, 1) := by decide +kernel
theorem dX3_cost_75 : decode cX3_cost 75 = .ok (.getfield 28, 3) := by decide +kernel
theorem dX3_cost_78 : decode cX3_cost 78 = .ok (.iload_n 1, 1) := by decide +kernel
theorem dX3_cost_79 : decode cX3_cost 79 = .ok (.iaload, 1) := by decide +kernel
theorem dX3_cost_80 : decode cX3_cost 80 = .ok (.istore 7, 2) := by decide +kernel
theorem dX3_cost_82 : decode cX3_cost 82 = .ok (.aload_n 0, 1) := by decide +kernel
theorem dX3_cost_83 : decode cX3_cost 83 = .ok (.getfield 31, 3) := by decide +kernel
theorem dX3_cost_86 : decode cX3_cost 86 = .ok (.iload_n 1, 1) := by decide +kernel
theorem dX3_cost_87 : decode cX3_cost 87 = .ok (.iconst 0, 1) := by decide +kernel
theorem dX3_cost_88 : decode cX3_cost 88 = .ok (.iastore, 1) := by decide +kernel
theorem dX3_cost_89 : decode cX3_cost 89 = .ok (.aload_n 0, 1) := by decide +kernel
theorem dX3_cost_90 : decode cX3_cost 90 = .ok (.getfield 25, 3) := by decide +kernel
theorem dX3_cost_93 : decode cX3_cost 93 = .ok (.iload_n 1, 1) := by decide +kernel
theorem dX3_cost_94 : decode cX3_cost 94 = .ok (.iconst 0, 1) := by decide +kernel
theorem dX3_cost_95 : decode cX3_cost 95 = .ok (.iastore, 1) := by decide +kernel
theorem dX3_cost_96 : decode cX3_cost 96 = .ok (.aload_n 0, 1) := by decide +kernel
theorem dX3_cost_97 : decode cX3_cost 97 = .ok (.getfield 28, 3) := by decide +kernel
theorem dX3_cost_100 : decode cX3_cost 100 = .ok (.iload_n 1, 1) := by decide +kernel
theorem dX3_cost_101 : decode cX3_cost 101 = .ok (.iconst 0, 1) := by decide +kernel
theorem dX3_cost_102 : decode cX3_cost 102 = .ok (.iastore, 1) := by decide +kernel
theorem dX3_cost_103 : decode cX3_cost 103 = .ok (.aload_n 0, 1) := by decide +kernel
theorem dX3_cost_104 : decode cX3_cost 104 = .ok (.iload_n 2, 1) := by decide +kernel
theorem dX3_cost_105 : decode cX3_cost 105 = .ok (.invokevirtual 107, 3) := by decide +kernel
theorem dX3_cost_108 : decode cX3_cost 108 = .ok (.aload_n 0, 1) := by decide +kernel
theorem dX3_cost_109 : decode cX3_cost 109 = .ok (.getfield 31, 3) := by decide +kernel
theorem dX3_cost_112 : decode cX3_cost 112 = .ok (.iload_n 1, 1) := by decide +kernel
theorem dX3_cost_113 : decode cX3_cost 113 = .ok (.iload 5, 2) := by decide +kernel
theorem dX3_cost_115 : decode cX3_cost 115 = .ok (.iastore, 1) := by decide +kernel
theorem dX3_cost_116 : decode cX3_cost 116 = .ok (.aload_n 0, 1) := by decide +kernel
theorem dX3_cost_117 : decode cX3_cost 117 = .ok (.getfield 25, 3) := by decide +kernel
theorem dX3_cost_120 : decode cX3_cost 120 = .ok (.iload_n 1, 1) := by decide +kernel
theorem dX3_cost_121 : decode cX3_cost 121 = .ok (.iload 6, 2) := by decide +kernel
theorem dX3_cost_123 : decode cX3_cost 123 = .ok (.iastore, 1) := by decide +kernel
theorem dX3_cost_124 : decode cX3_cost 124 = .ok (.aload_n 0, 1) := by decide +kernel
theorem dX3_cost_125 : decode cX3_cost 125 = .ok (.getfield 28, 3) := by decide +kernel
theorem dX3_cost_128 : decode cX3_cost 128 = .ok (.iload_n 1, 1) := by decide +kernel
theorem dX3_cost_129 : decode cX3_cost 129 = .ok (.iload 7, 2) := by decide +kernel
theorem dX3_cost_131 : decode cX3_cost 131 = .ok (.iastore, 1) := by decide +kernel
theorem dX3_cost_132 : decode cX3_cost 132 = .ok (.iload_n 3, 1) := by decide +kernel
theorem dX3_cost_133 : decode cX3_cost 133 = .ok (.ifCond .eq 10, 3) := by decide +kernel
theorem dX3_cost_136 : decode cX3_cost 136 = .ok (.aload_n 0, 1) := by decide +kernel
theorem dX3_cost_137 : decode cX3_cost 137 = .ok (.getfield 89, 3) := by decide +kernel
theorem dX3_cost_140 : decode cX3_cost 140 = .ok (.ifCond .ne 10, 3) := by decide +kernel
theorem dX3_cost_143 : decode cX3_cost 143 = .ok (.aload_n 0, 1) := by decide +kernel
theorem dX3_cost_144 : decode cX3_cost 144 = .ok (.iconst 3, 1) := by decide +kernel
theorem dX3_cost_145 : decode cX3_cost 145 = .ok (.putfield 50, 3) := by decide +kernel
theorem dX3_cost_148 : decode cX3_cost 148 = .ok (.iconst 0, 1) := by decide +kernel
theorem dX3_cost_149 : decode cX3_cost 149 = .ok (.ireturn, 1) := by decide +kernel
theorem dX3_cost_150 : decode cX3_cost 150 = .ok (.iload 4, 2) := by decide +kernel
theorem dX3_cost_152 : decode cX3_cost 152 = .ok (.aload_n 0, 1) := by decide +kernel
theorem dX3_cost_153 : decode cX3_cost 153 = .ok (.getfield 92, 3) := by decide +kernel
theorem dX3_cost_156 : decode cX3_cost 156 = .ok (.isub, 1) := by decide +kernel
theorem dX3_cost_157 : decode cX3_cost 157 = .ok (.ireturn, 1) := by decide +kernel
theorem dL_logs_0 : decode cL_logs 0 = .ok (.aload_n 0, 1) := by decide +kernel
theorem dL_logs_1 : decode cL_logs 1 = .ok (.iload_n 1, 1) := by decide +kernel
theorem dL_logs_2 : decode cL_logs 2 = .ok (.iload_n 2, 1) := by decide +kernel
theorem dL_logs_3 : decode cL_logs 3 = .ok (.iload_n 3, 1) := by decide +kernel
theorem dL_logs_4 : decode cL_logs 4 = .ok (.invokevirtual 7, 3) := by decide +kernel
theorem dL_logs_7 : decode cL_logs 7 = .ok (.goto 11, 3) := by decide +kernel
theorem dL_logs_10 : decode cL_logs 10 = .ok (.astore 4, 2) := by decide +kernel
theorem dL_logs_12 : decode cL_logs 12 = .ok (.iconst 1, 1) := by decide +kernel
theorem dL_logs_13 : decode cL_logs 13 = .ok (.ireturn, 1) := by decide +kernel
theorem dL_logs_14 : decode cL_logs 14 = .ok (.astore 4, 2) := by decide +kernel
theorem dL_logs_16 : decode cL_logs 16 = .ok (.iconst 2, 1) := by decide +kernel
theorem dL_logs_17 : decode cL_logs 17 = .ok (.ireturn, 1) := by decide +kernel
theorem dL_logs_18 : decode cL_logs 18 = .ok (.iconst 0, 1) := by decide +kernel
theorem dL_logs_19 : decode cL_logs 19 = .ok (.ireturn, 1) := by decide +kernel
theorem dL_pattern_0 : decode cL_pattern 0 = .ok (.aload_n 3, 1) := by decide +kernel
theorem dL_pattern_1 : decode cL_pattern 1 = .ok (.iconst 0, 1) := by decide +kernel
theorem dL_pattern_2 : decode cL_pattern 2 = .ok (.aload_n 0, 1) := by decide +kernel
theorem dL_pattern_3 : decode cL_pattern 3 = .ok (.iload_n 1, 1) := by decide +kernel
theorem dL_pattern_4 : decode cL_pattern 4 = .ok (.iload_n 2, 1) := by decide +kernel
theorem dL_pattern_5 : decode cL_pattern 5 = .ok (.invokevirtual 17, 3) := by decide +kernel
theorem dL_pattern_8 : decode cL_pattern 8 = .ok (.i2l, 1) := by decide +kernel
theorem dL_pattern_9 : decode cL_pattern 9 = .ok (.lastore, 1) := by decide +kernel
theorem dL_pattern_10 : decode cL_pattern 10 = .ok (.goto 15, 3) := by decide +kernel
theorem dL_pattern_13 : decode cL_pattern 13 = .ok (.astore 4, 2) := by decide +kernel
theorem dL_pattern_15 : decode cL_pattern 15 = .ok (.iconst 1, 1) := by decide +kernel
theorem dL_pattern_16 : decode cL_pattern 16 = .ok (.ireturn, 1) := by decide +kernel
theorem dL_pattern_17 : decode cL_pattern 17 = .ok (.astore 4, 2) := by decide +kernel
theorem dL_pattern_19 : decode cL_pattern 19 = .ok (.iconst 2, 1) := by decide +kernel
theorem dL_pattern_20 : decode cL_pattern 20 = .ok (.ireturn, 1) := by decide +kernel
theorem dL_pattern_21 : decode cL_pattern 21 = .ok (.astore 4, 2) := by decide +kernel
theorem dL_pattern_23 : decode cL_pattern 23 = .ok (.iconst 3, 1) := by decide +kernel
theorem dL_pattern_24 : decode cL_pattern 24 = .ok (.ireturn, 1) := by decide +kernel
theorem dL_pattern_25 : decode cL_pattern 25 = .ok (.iconst 0, 1) := by decide +kernel
theorem dL_pattern_26 : decode cL_pattern 26 = .ok (.ireturn, 1) := by decide +kernel
theorem dL_gives_0 : decode cL_gives 0 = .ok (.aload_n 0, 1) := by decide +kernel
theorem dL_gives_1 : decode cL_gives 1 = .ok (.iload_n 1, 1) := by decide +kernel
theorem dL_gives_2 : decode cL_gives 2 = .ok (.iload_n 2, 1) := by decide +kernel
theorem dL_gives_3 : decode cL_gives 3 = .ok (.iload_n 3, 1) := by decide +kernel
theorem dL_gives_4 : decode cL_gives 4 = .ok (.invokevirtual 23, 3) := by decide +kernel
theorem dL_gives_7 : decode cL_gives 7 = .ok (.goto 11, 3) := by decide +kernel
theorem dL_gives_10 : decode cL_gives 10 = .ok (.astore 4, 2) := by decide +kernel
theorem dL_gives_12 : decode cL_gives 12 = .ok (.iconst 1, 1) := by decide +kernel
theorem dL_gives_13 : decode cL_gives 13 = .ok (.ireturn, 1) := by decide +kernel
theorem dL_gives_14 : decode cL_gives 14 = .ok (.astore 4, 2) := by decide +kernel
theorem dL_gives_16 : decode cL_gives 16 = .ok (.iconst 2, 1) := by decide +kernel
theorem dL_gives_17 : decode cL_gives 17 = .ok (.ireturn, 1) := by decide +kernel
theorem dL_gives_18 : decode cL_gives 18 = .ok (.iconst 0, 1) := by decide +kernel
theorem dL_gives_19 : decode cL_gives 19 = .ok (.ireturn, 1) := by decide +kernel
theorem dL_order_0 : decode cL_order 0 = .ok (.aload_n 0, 1) := by decide +kernel
theorem dL_order_1 : decode cL_order 1 = .ok (.iload_n 1, 1) := by decide +kernel
theorem dL_order_2 : decode cL_order 2 = .ok (.iload_n 2, 1) := by decide +kernel
theorem dL_order_3 : decode cL_order 3 = .ok (.iload_n 3, 1) := by decide +kernel
theorem dL_order_4 : decode cL_order 4 = .ok (.iload 4, 2) := by decide +kernel
theorem dL_order_6 : decode cL_order 6 = .ok (.invokevirtual 26, 3) := by decide +kernel
theorem dL_order_9 : decode cL_order 9 = .ok (.goto 11, 3) := by decide +kernel
theorem dL_order_12 : decode cL_order 12 = .ok (.astore 5, 2) := by decide +kernel
theorem dL_order_14 : decode cL_order 14 = .ok (.iconst 1, 1) := by decide +kernel
theorem dL_order_15 : decode cL_order 15 = .ok (.ireturn, 1) := by decide +kernel
theorem dL_order_16 : decode cL_order 16 = .ok (.astore 5, 2) := by decide +kernel
theorem dL_order_18 : decode cL_order 18 = .ok (.iconst 2, 1) := by decide +kernel
theorem dL_order_19 : decode cL_order 19 = .ok (.ireturn, 1) := by decide +kernel
theorem dL_order_20 : decode cL_order 20 = .ok (.iconst 0, 1) := by decide +kernel
theorem dL_order_21 : decode cL_order 21 = .ok (.ireturn, 1) := by decide +kernel
theorem dL_hours_0 : decode cL_hours 0 = .ok (.aload_n 0, 1) := by decide +kernel
theorem dL_hours_1 : decode cL_hours 1 = .ok (.iload_n 1, 1) := by decide +kernel
theorem dL_hours_2 : decode cL_hours 2 = .ok (.iload_n 2, 1) := by decide +kernel
theorem dL_hours_3 : decode cL_hours 3 = .ok (.invokevirtual 30, 3) := by decide +kernel
theorem dL_hours_6 : decode cL_hours 6 = .ok (.goto 6, 3) := by decide +kernel
theorem dL_hours_9 : decode cL_hours 9 = .ok (.astore_n 3, 1) := by decide +kernel
theorem dL_hours_10 : decode cL_hours 10 = .ok (.iconst 1, 1) := by decide +kernel
theorem dL_hours_11 : decode cL_hours 11 = .ok (.ireturn, 1) := by decide +kernel
theorem dL_hours_12 : decode cL_hours 12 = .ok (.iconst 0, 1) := by decide +kernel
theorem dL_hours_13 : decode cL_hours 13 = .ok (.ireturn, 1) := by decide +kernel
theorem dL_run_0 : decode cL_run 0 = .ok (.aload_n 2, 1) := by decide +kernel
theorem dL_run_1 : decode cL_run 1 = .ok (.iconst 0, 1) := by decide +kernel
theorem dL_run_2 : decode cL_run 2 = .ok (.aload_n 0, 1) := by decide +kernel
theorem dL_run_3 : decode cL_run 3 = .ok (.iload_n 1, 1) := by decide +kernel
theorem dL_run_4 : decode cL_run 4 = .ok (.invokevirtual 34, 3) := by decide +kernel
theorem dL_run_7 : decode cL_run 7 = .ok (.i2l, 1) := by decide +kernel
theorem dL_run_8 : decode cL_run 8 = .ok (.lastore, 1) := by decide +kernel
theorem dL_run_9 : decode cL_run 9 = .ok (.goto 6, 3) := by decide +kernel
theorem dL_run_12 : decode cL_run 12 = .ok (.astore_n 3, 1) := by decide +kernel
theorem dL_run_13 : decode cL_run 13 = .ok (.iconst 1, 1) := by decide +kernel
theorem dL_run_14 : decode cL_run 14 = .ok (.ireturn, 1) := by decide +kernel
theorem dL_run_15 : decode cL_run 15 = .ok (.iconst 0, 1) := by decide +kernel
theorem dL_run_16 : decode cL_run 16 = .ok (.ireturn, 1) := by decide +kernel
theorem dL_search_0 : decode cL_search 0 = .ok (.aload_n 2, 1) := by decide +kernel
theorem dL_search_1 : decode cL_search 1 = .ok (.iconst 0, 1) := by decide +kernel
theorem dL_search_2 : decode cL_search 2 = .ok (.aload_n 0, 1) := by decide +kernel
theorem dL_search_3 : decode cL_search 3 = .ok (.iload_n 1, 1) := by decide +kernel
theorem dL_search_4 : decode cL_search 4 = .ok (.invokevirtual 38, 3) := by decide +kernel
theorem dL_search_7 : decode cL_search 7 = .ok (.i2l, 1) := by decide +kernel
theorem dL_search_8 : decode cL_search 8 = .ok (.lastore, 1) := by decide +kernel
theorem dL_search_9 : decode cL_search 9 = .ok (.goto 9, 3) := by decide +kernel
theorem dL_search_12 : decode cL_search 12 = .ok (.astore_n 3, 1) := by decide +kernel
theorem dL_search_13 : decode cL_search 13 = .ok (.iconst 1, 1) := by decide +kernel
theorem dL_search_14 : decode cL_search 14 = .ok (.ireturn, 1) := by decide +kernel
theorem dL_search_15 : decode cL_search 15 = .ok (.astore_n 3, 1) := by decide +kernel
theorem dL_search_16 : decode cL_search 16 = .ok (.iconst 2, 1) := by decide +kernel
theorem dL_search_17 : decode cL_search 17 = .ok (.ireturn, 1) := by decide +kernel
theorem dL_search_18 : decode cL_search 18 = .ok (.iconst 0, 1) := by decide +kernel
theorem dL_search_19 : decode cL_search 19 = .ok (.ireturn, 1) := by decide +kernel
theorem dL_used_0 : decode cL_used 0 = .ok (.aload_n 2, 1) := by decide +kernel
theorem dL_used_1 : decode cL_used 1 = .ok (.iconst 0, 1) := by decide +kernel
theorem dL_used_2 : decode cL_used 2 = .ok (.aload_n 0, 1) := by decide +kernel
theorem dL_used_3 : decode cL_used 3 = .ok (.iload_n 1, 1) := by decide +kernel
theorem dL_used_4 : decode cL_used 4 = .ok (.invokevirtual 41, 3) := by decide +kernel
theorem dL_used_7 : decode cL_used 7 = .ok (.i2l, 1) := by decide +kernel
theorem dL_used_8 : decode cL_used 8 = .ok (.lastore, 1) := by decide +kernel
theorem dL_used_9 : decode cL_used 9 = .ok (.goto 9, 3) := by decide +kernel
theorem dL_used_12 : decode cL_used 12 = .ok (.astore_n 3, 1) := by decide +kernel
theorem dL_used_13 : decode cL_used 13 = .ok (.iconst 1, 1) := by decide +kernel
theorem dL_used_14 : decode cL_used 14 = .ok (.ireturn, 1) := by decide +kernel
theorem dL_used_15 : decode cL_used 15 = .ok (.astore_n 3, 1) := by decide +kernel
theorem dL_used_16 : decode cL_used 16 = .ok (.iconst 2, 1) := by decide +kernel
theorem dL_used_17 : decode cL_used 17 = .ok (.ireturn, 1) := by decide +kernel
theorem dL_used_18 : decode cL_used 18 = .ok (.iconst 0, 1) := by decide +kernel
theorem dL_used_19 : decode cL_used 19 = .ok (.ireturn, 1) := by decide +kernel
theorem dL_best_0 : decode cL_best 0 = .ok (.aload_n 2, 1) := by decide +kernel
theorem dL_best_1 : decode cL_best 1 = .ok (.iconst 0, 1) := by decide +kernel
theorem dL_best_2 : decode cL_best 2 = .ok (.aload_n 0, 1) := by decide +kernel
theorem dL_best_3 : decode cL_best 3 = .ok (.iload_n 1, 1) := by decide +kernel
theorem dL_best_4 : decode cL_best 4 = .ok (.invokevirtual 44, 3) := by decide +kernel
theorem dL_best_7 : decode cL_best 7 = .ok (.i2l, 1) := by decide +kernel
theorem dL_best_8 : decode cL_best 8 = .ok (.lastore, 1) := by decide +kernel
theorem dL_best_9 : decode cL_best 9 = .ok (.goto 9, 3) := by decide +kernel
theorem dL_best_12 : decode cL_best 12 = .ok (.astore_n 3, 1) := by decide +kernel
theorem dL_best_13 : decode cL_best 13 = .ok (.iconst 1, 1) := by decide +kernel
theorem dL_best_14 : decode cL_best 14 = .ok (.ireturn, 1) := by decide +kernel
theorem dL_best_15 : decode cL_best 15 = .ok (.astore_n 3, 1) := by decide +kernel
theorem dL_best_16 : decode cL_best 16 = .ok (.iconst 2, 1) := by decide +kernel
theorem dL_best_17 : decode cL_best 17 = .ok (.ireturn, 1) := by decide +kernel
theorem dL_best_18 : decode cL_best 18 = .ok (.iconst 0, 1) := by decide +kernel
theorem dL_best_19 : decode cL_best 19 = .ok (.ireturn, 1) := by decide +kernel
theorem dL_made_0 : decode cL_made 0 = .ok (.aload_n 2, 1) := by decide +kernel
theorem dL_made_1 : decode cL_made 1 = .ok (.iconst 0, 1) := by decide +kernel
theorem dL_made_2 : decode cL_made 2 = .ok (.aload_n 0, 1) := by decide +kernel
theorem dL_made_3 : decode cL_made 3 = .ok (.iload_n 1, 1) := by decide +kernel
theorem dL_made_4 : decode cL_made 4 = .ok (.invokevirtual 47, 3) := by decide +kernel
theorem dL_made_7 : decode cL_made 7 = .ok (.i2l, 1) := by decide +kernel
theorem dL_made_8 : decode cL_made 8 = .ok (.lastore, 1) := by decide +kernel
theorem dL_made_9 : decode cL_made 9 = .ok (.goto 9, 3) := by decide +kernel
theorem dL_made_12 : decode cL_made 12 = .ok (.astore_n 3, 1) := by decide +kernel
theorem dL_made_13 : decode cL_made 13 = .ok (.iconst 1, 1) := by decide +kernel
theorem dL_made_14 : decode cL_made 14 = .ok (.ireturn, 1) := by decide +kernel
theorem dL_made_15 : decode cL_made 15 = .ok (.astore_n 3, 1) := by decide +kernel
theorem dL_made_16 : decode cL_made 16 = .ok (.iconst 2, 1) := by decide +kernel
theorem dL_made_17 : decode cL_made 17 = .ok (.ireturn, 1) := by decide +kernel
theorem dL_made_18 : decode cL_made 18 = .ok (.iconst 0, 1) := by decide +kernel
theorem dL_made_19 : decode cL_made 19 = .ok (.ireturn, 1) := by decide +kernel
theorem dL_saw_0 : decode cL_saw 0 = .ok (.aload_n 1, 1) := by decide +kernel
theorem dL_saw_1 : decode cL_saw 1 = .ok (.iconst 0, 1) := by decide +kernel
theorem dL_saw_2 : decode cL_saw 2 = .ok (.aload_n 0, 1) := by decide +kernel
theorem dL_saw_3 : decode cL_saw 3 = .ok (.invokevirtual 50, 3) := by decide +kernel
theorem dL_saw_6 : decode cL_saw 6 = .ok (.i2l, 1) := by decide +kernel
theorem dL_saw_7 : decode cL_saw 7 = .ok (.lastore, 1) := by decide +kernel
theorem dL_saw_8 : decode cL_saw 8 = .ok (.goto 6, 3) := by decide +kernel
theorem dL_saw_11 : decode cL_saw 11 = .ok (.astore_n 2, 1) := by decide +kernel
theorem dL_saw_12 : decode cL_saw 12 = .ok (.iconst 1, 1) := by decide +kernel
theorem dL_saw_13 : decode cL_saw 13 = .ok (.ireturn, 1) := by decide +kernel
theorem dL_saw_14 : decode cL_saw 14 = .ok (.iconst 0, 1) := by decide +kernel
theorem dL_saw_15 : decode cL_saw 15 = .ok (.ireturn, 1) := by decide +kernel
theorem dL_mill_0 : decode cL_mill 0 = .ok (.aload_n 2, 1) := by decide +kernel
theorem dL_mill_1 : decode cL_mill 1 = .ok (.iconst 0, 1) := by decide +kernel
theorem dL_mill_2 : decode cL_mill 2 = .ok (.aload_n 0, 1) := by decide +kernel
theorem dL_mill_3 : decode cL_mill 3 = .ok (.iload_n 1, 1) := by decide +kernel
theorem dL_mill_4 : decode cL_mill 4 = .ok (.invokevirtual 54, 3) := by decide +kernel
theorem dL_mill_7 : decode cL_mill 7 = .ok (.i2l, 1) := by decide +kernel
theorem dL_mill_8 : decode cL_mill 8 = .ok (.lastore, 1) := by decide +kernel
theorem dL_mill_9 : decode cL_mill 9 = .ok (.goto 6, 3) := by decide +kernel
theorem dL_mill_12 : decode cL_mill 12 = .ok (.astore_n 3, 1) := by decide +kernel
theorem dL_mill_13 : decode cL_mill 13 = .ok (.iconst 1, 1) := by decide +kernel
theorem dL_mill_14 : decode cL_mill 14 = .ok (.ireturn, 1) := by decide +kernel
theorem dL_mill_15 : decode cL_mill 15 = .ok (.iconst 0, 1) := by decide +kernel
theorem dL_mill_16 : decode cL_mill 16 = .ok (.ireturn, 1) := by decide +kernel
theorem dL_cost_0 : decode cL_cost 0 = .ok (.aload_n 3, 1) := by decide +kernel
theorem dL_cost_1 : decode cL_cost 1 = .ok (.iconst 0, 1) := by decide +kernel
theorem dL_cost_2 : decode cL_cost 2 = .ok (.aload_n 0, 1) := by decide +kernel
theorem dL_cost_3 : decode cL_cost 3 = .ok (.iload_n 1, 1) := by decide +kernel
theorem dL_cost_4 : decode cL_cost 4 = .ok (.iload_n 2, 1) := by decide +kernel
theorem dL_cost_5 : decode cL_cost 5 = .ok (.invokevirtual 57, 3) := by decide +kernel
theorem dL_cost_8 : decode cL_cost 8 = .ok (.i2l, 1) := by decide +kernel
theorem dL_cost_9 : decode cL_cost 9 = .ok (.lastore, 1) := by decide +kernel
theorem dL_cost_10 : decode cL_cost 10 = .ok (.goto 15, 3) := by decide +kernel
theorem dL_cost_13 : decode cL_cost 13 = .ok (.astore 4, 2) := by decide +kernel
theorem dL_cost_15 : decode cL_cost 15 = .ok (.iconst 1, 1) := by decide +kernel
theorem dL_cost_16 : decode cL_cost 16 = .ok (.ireturn, 1) := by decide +kernel
theorem dL_cost_17 : decode cL_cost 17 = .ok (.astore 4, 2) := by decide +kernel
theorem dL_cost_19 : decode cL_cost 19 = .ok (.iconst 2, 1) := by decide +kernel
theorem dL_cost_20 : decode cL_cost 20 = .ok (.ireturn, 1) := by decide +kernel
theorem dL_cost_21 : decode cL_cost 21 = .ok (.astore 4, 2) := by decide +kernel
theorem dL_cost_23 : decode cL_cost 23 = .ok (.iconst 3, 1) := by decide +kernel
theorem dL_cost_24 : decode cL_cost 24 = .ok (.ireturn, 1) := by decide +kernel
theorem dL_cost_25 : decode cL_cost 25 = .ok (.iconst 0, 1) := by decide +kernel
theorem dL_cost_26 : decode cL_cost 26 = .ok (.ireturn, 1) := by decide +kernel
theorem dX1_init_0 : decode cX1_init 0 = .ok (.aload_n 0, 1) := by decide +kernel
theorem dX1_init_1 : decode cX1_init 1 = .ok (.invokespecial 3, 3) := by decide +kernel
theorem dX1_init_4 : decode cX1_init 4 = .ok (.aload_n 0, 1) := by decide +kernel
theorem dX1_init_5 : decode cX1_init 5 = .ok (.iconst 4, 1) := by decide +kernel
theorem dX1_init_6 : decode cX1_init 6 = .ok (.newarray .int, 2) := by decide +kernel
theorem dX1_init_8 : decode cX1_init 8 = .ok (.putfield 9, 3) := by decide +kernel
theorem dX1_init_11 : decode cX1_init 11 = .ok (.aload_n 0, 1) := by decide +kernel
theorem dX1_init_12 : decode cX1_init 12 = .ok (.iconst 4, 1) := by decide +kernel
theorem dX1_init_13 : decode cX1_init 13 = .ok (.newarray .int, 2) := by decide +kernel
theorem dX1_init_15 : decode cX1_init 15 = .ok (.putfield 15, 3) := by decide +kernel
theorem dX1_init_18 : decode cX1_init 18 = .ok (.aload_n 0, 1) := by decide +kernel
theorem dX1_init_19 : decode cX1_init 19 = .ok (.bipush 6, 2) := by decide +kernel
theorem dX1_init_21 : decode cX1_init 21 = .ok (.newarray .int, 2) := by decide +kernel
theorem dX1_init_23 : decode cX1_init 23 = .ok (.putfield 18, 3) := by decide +kernel
theorem dX1_init_26 : decode cX1_init 26 = .ok (.aload_n 0, 1) := by decide +kernel
theorem dX1_init_27 : decode cX1_init 27 = .ok (.bipush 6, 2) := by decide +kernel
theorem dX1_init_29 : decode cX1_init 29 = .ok (.newarray .int, 2) := by decide +kernel
theorem dX1_init_31 : decode cX1_init 31 = .ok (.putfield 21, 3) := by decide +kernel
theorem dX1_init_34 : decode cX1_init 34 = .ok (.aload_n 0, 1) := by decide +kernel
theorem dX1_init_35 : decode cX1_init 35 = .ok (.bipush 6, 2) := by decide +kernel
theorem dX1_init_37 : decode cX1_init 37 = .ok (.iconst 4, 1) := by decide +kernel
theorem dX1_init_38 : decode cX1_init 38 = .ok (.multianewarray 24 2, 4) := by decide +kernel
theorem dX1_init_42 : decode cX1_init 42 = .ok (.putfield 26, 3) := by decide +kernel
theorem dX1_init_45 : decode cX1_init 45 = .ok (.aload_n 0, 1) := by decide +kernel
theorem dX1_init_46 : decode cX1_init 46 = .ok (.iconst 4, 1) := by decide +kernel
theorem dX1_init_47 : decode cX1_init 47 = .ok (.newarray .int, 2) := by decide +kernel
theorem dX1_init_49 : decode cX1_init 49 = .ok (.putfield 29, 3) := by decide +kernel
theorem dX1_init_52 : decode cX1_init 52 = .ok (.aload_n 0, 1) := by decide +kernel
theorem dX1_init_53 : decode cX1_init 53 = .ok (.iconst 4, 1) := by decide +kernel
theorem dX1_init_54 : decode cX1_init 54 = .ok (.newarray .int, 2) := by decide +kernel
theorem dX1_init_56 : decode cX1_init 56 = .ok (.putfield 32, 3) := by decide +kernel
theorem dX1_init_59 : decode cX1_init 59 = .ok (.aload_n 0, 1) := by decide +kernel
theorem dX1_init_60 : decode cX1_init 60 = .ok (.iconst 4, 1) := by decide +kernel
theorem dX1_init_61 : decode cX1_init 61 = .ok (.newarray .int, 2) := by decide +kernel
theorem dX1_init_63 : decode cX1_init 63 = .ok (.putfield 35, 3) := by decide +kernel
theorem dX1_init_66 : decode cX1_init 66 = .ok (.aload_n 0, 1) := by decide +kernel
theorem dX1_init_67 : decode cX1_init 67 = .ok (.iconst 4, 1) := by decide +kernel
theorem dX1_init_68 : decode cX1_init 68 = .ok (.newarray .int, 2) := by decide +kernel
theorem dX1_init_70 : decode cX1_init 70 = .ok (.putfield 38, 3) := by decide +kernel
theorem dX1_init_73 : decode cX1_init 73 = .ok (.aload_n 0, 1) := by decide +kernel
theorem dX1_init_74 : decode cX1_init 74 = .ok (.sipush 480, 3) := by decide +kernel
theorem dX1_init_77 : decode cX1_init 77 = .ok (.putfield 41, 3) := by decide +kernel
theorem dX1_init_80 : decode cX1_init 80 = .ok (.return_, 1) := by decide +kernel
theorem dX0_init_0 : decode cX0_init 0 = .ok (.aload_n 0, 1) := by decide +kernel
theorem dX0_init_1 : decode cX0_init 1 = .ok (.invokespecial 3, 3) := by decide +kernel
theorem dX0_init_4 : decode cX0_init 4 = .ok (.aload_n 0, 1) := by decide +kernel
theorem dX0_init_5 : decode cX0_init 5 = .ok (.bipush 6, 2) := by decide +kernel
theorem dX0_init_7 : decode cX0_init 7 = .ok (.newarray .int, 2) := by decide +kernel
theorem dX0_init_9 : decode cX0_init 9 = .ok (.putfield 9, 3) := by decide +kernel
theorem dX0_init_12 : decode cX0_init 12 = .ok (.aload_n 0, 1) := by decide +kernel
theorem dX0_init_13 : decode cX0_init 13 = .ok (.iconst 4, 1) := by decide +kernel
theorem dX0_init_14 : decode cX0_init 14 = .ok (.newarray .int, 2) := by decide +kernel
theorem dX0_init_16 : decode cX0_init 16 = .ok (.putfield 15, 3) := by decide +kernel
theorem dX0_init_19 : decode cX0_init 19 = .ok (.aload_n 0, 1) := by decide +kernel
theorem dX0_init_20 : decode cX0_init 20 = .ok (.iconst 4, 1) := by decide +kernel
theorem dX0_init_21 : decode cX0_init 21 = .ok (.newarray .int, 2) := by decide +kernel
theorem dX0_init_23 : decode cX0_init 23 = .ok (.putfield 18, 3) := by decide +kernel
theorem dX0_init_26 : decode cX0_init 26 = .ok (.aload_n 0, 1) := by decide +kernel
theorem dX0_init_27 : decode cX0_init 27 = .ok (.iconst 4, 1) := by decide +kernel
theorem dX0_init_28 : decode cX0_init 28 = .ok (.newarray .int, 2) := by decide +kernel
theorem dX0_init_30 : decode cX0_init 30 = .ok (.putfield 21, 3) := by decide +kernel
theorem dX0_init_33 : decode cX0_init 33 = .ok (.aload_n 0, 1) := by decide +kernel
theorem dX0_init_34 : decode cX0_init 34 = .ok (.iconst 4, 1) := by decide +kernel
theorem dX0_init_35 : decode cX0_init 35 = .ok (.newarray .int, 2) := by decide +kernel
theorem dX0_init_37 : decode cX0_init 37 = .ok (.putfield 24, 3) := by decide +kernel
theorem dX0_init_40 : decode cX0_init 40 = .ok (.aload_n 0, 1) := by decide +kernel
theorem dX0_init_41 : decode cX0_init 41 = .ok (.iconst 4, 1) := by decide +kernel
theorem dX0_init_42 : decode cX0_init 42 = .ok (.newarray .int, 2) := by decide +kernel
theorem dX0_init_44 : decode cX0_init 44 = .ok (.putfield 27, 3) := by decide +kernel
theorem dX0_init_47 : decode cX0_init 47 = .ok (.aload_n 0, 1) := by decide +kernel
theorem dX0_init_48 : decode cX0_init 48 = .ok (.bipush 6, 2) := by decide +kernel
theorem dX0_init_50 : decode cX0_init 50 = .ok (.newarray .int, 2) := by decide +kernel
theorem dX0_init_52 : decode cX0_init 52 = .ok (.putfield 30, 3) := by decide +kernel
theorem dX0_init_55 : decode cX0_init 55 = .ok (.aload_n 0, 1) := by decide +kernel
theorem dX0_init_56 : decode cX0_init 56 = .ok (.aload_n 1, 1) := by decide +kernel
theorem dX0_init_57 : decode cX0_init 57 = .ok (.putfield 33, 3) := by decide +kernel
theorem dX0_init_60 : decode cX0_init 60 = .ok (.return_, 1) := by decide +kernel
theorem dX3_init_0 : decode cX3_init 0 = .ok (.aload_n 0, 1) := by decide +kernel
theorem dX3_init_1 : decode cX3_init 1 = .ok (.invokespecial 1, 3) := by decide +kernel
theorem dX3_init_4 : decode cX3_init 4 = .ok (.aload_n 0, 1) := by decide +kernel
theorem dX3_init_5 : decode cX3_init 5 = .ok (.iconst 4, 1) := by decide +kernel
theorem dX3_init_6 : decode cX3_init 6 = .ok (.newarray .int, 2) := by decide +kernel
theorem dX3_init_8 : decode cX3_init 8 = .ok (.putfield 7, 3) := by decide +kernel
theorem dX3_init_11 : decode cX3_init 11 = .ok (.aload_n 0, 1) := by decide +kernel
theorem dX3_init_12 : decode cX3_init 12 = .ok (.iconst 4, 1) := by decide +kernel
theorem dX3_init_13 : decode cX3_init 13 = .ok (.newarray .int, 2) := by decide +kernel
theorem dX3_init_15 : decode cX3_init 15 = .ok (.putfield 13, 3) := by decide +kernel
theorem dX3_init_18 : decode cX3_init 18 = .ok (.aload_n 0, 1) := by decide +kernel
theorem dX3_init_19 : decode cX3_init 19 = .ok (.bipush 6, 2) := by decide +kernel
theorem dX3_init_21 : decode cX3_init 21 = .ok (.newarray .int, 2) := by decide +kernel
theorem dX3_init_23 : decode cX3_init 23 = .ok (.putfield 16, 3) := by decide +kernel
theorem dX3_init_26 : decode cX3_init 26 = .ok (.aload_n 0, 1) := by decide +kernel
theorem dX3_init_27 : decode cX3_init 27 = .ok (.bipush 6, 2) := by decide +kernel
theorem dX3_init_29 : decode cX3_init 29 = .ok (.newarray .int, 2) := by decide +kernel
theorem dX3_init_31 : decode cX3_init 31 = .ok (.putfield 19, 3) := by decide +kernel
theorem dX3_init_34 : decode cX3_init 34 = .ok (.aload_n 0, 1) := by decide +kernel
theorem dX3_init_35 : decode cX3_init 35 = .ok (.bipush 24, 2) := by decide +kernel
theorem dX3_init_37 : decode cX3_init 37 = .ok (.newarray .int, 2) := by decide +kernel
theorem dX3_init_39 : decode cX3_init 39 = .ok (.putfield 22, 3) := by decide +kernel
theorem dX3_init_42 : decode cX3_init 42 = .ok (.aload_n 0, 1) := by decide +kernel
theorem dX3_init_43 : decode cX3_init 43 = .ok (.iconst 4, 1) := by decide +kernel
theorem dX3_init_44 : decode cX3_init 44 = .ok (.newarray .int, 2) := by decide +kernel
theorem dX3_init_46 : decode cX3_init 46 = .ok (.putfield 25, 3) := by decide +kernel
theorem dX3_init_49 : decode cX3_init 49 = .ok (.aload_n 0, 1) := by decide +kernel
theorem dX3_init_50 : decode cX3_init 50 = .ok (.iconst 4, 1) := by decide +kernel
theorem dX3_init_51 : decode cX3_init 51 = .ok (.newarray .int, 2) := by decide +kernel
theorem dX3_init_53 : decode cX3_init 53 = .ok (.putfield 28, 3) := by decide +kernel
theorem dX3_init_56 : decode cX3_init 56 = .ok (.aload_n 0, 1) := by decide +kernel
theorem dX3_init_57 : decode cX3_init 57 = .ok (.iconst 4, 1) := by decide +kernel
theorem dX3_init_58 : decode cX3_init 58 = .ok (.newarray .int, 2) := by decide +kernel
theorem dX3_init_60 : decode cX3_init 60 = .ok (.putfield 31, 3) := by decide +kernel
theorem dX3_init_63 : decode cX3_init 63 = .ok (.aload_n 0, 1) := by decide +kernel
theorem dX3_init_64 : decode cX3_init 64 = .ok (.iconst 4, 1) := by decide +kernel
theorem dX3_init_65 : decode cX3_init 65 = .ok (.newarray .int, 2) := by decide +kernel
theorem dX3_init_67 : decode cX3_init 67 = .ok (.putfield 34, 3) := by decide +kernel
theorem dX3_init_70 : decode cX3_init 70 = .ok (.aload_n 0, 1) := by decide +kernel
theorem dX3_init_71 : decode cX3_init 71 = .ok (.sipush 480, 3) := by decide +kernel
theorem dX3_init_74 : decode cX3_init 74 = .ok (.putfield 37, 3) := by decide +kernel
theorem dX3_init_77 : decode cX3_init 77 = .ok (.aload_n 0, 1) := by decide +kernel
theorem dX3_init_78 : decode cX3_init 78 = .ok (.bipush 6, 2) := by decide +kernel
theorem dX3_init_80 : decode cX3_init 80 = .ok (.newarray .int, 2) := by decide +kernel
theorem dX3_init_82 : decode cX3_init 82 = .ok (.putfield 41, 3) := by decide +kernel
theorem dX3_init_85 : decode cX3_init 85 = .ok (.aload_n 0, 1) := by decide +kernel
theorem dX3_init_86 : decode cX3_init 86 = .ok (.bipush 6, 2) := by decide +kernel
theorem dX3_init_88 : decode cX3_init 88 = .ok (.newarray .int, 2) := by decide +kernel
theorem dX3_init_90 : decode cX3_init 90 = .ok (.putfield 44, 3) := by decide +kernel
theorem dX3_init_93 : decode cX3_init 93 = .ok (.aload_n 0, 1) := by decide +kernel
theorem dX3_init_94 : decode cX3_init 94 = .ok (.bipush 6, 2) := by decide +kernel
theorem dX3_init_96 : decode cX3_init 96 = .ok (.newarray .int, 2) := by decide +kernel
theorem dX3_init_98 : decode cX3_init 98 = .ok (.putfield 47, 3) := by decide +kernel
theorem dX3_init_101 : decode cX3_init 101 = .ok (.return_, 1) := by decide +kernel
theorem dX2_init_0 : decode cX2_init 0 = .ok (.aload_n 0, 1) := by decide +kernel
theorem dX2_init_1 : decode cX2_init 1 = .ok (.invokespecial 1, 3) := by decide +kernel
theorem dX2_init_4 : decode cX2_init 4 = .ok (.aload_n 0, 1) := by decide +kernel
theorem dX2_init_5 : decode cX2_init 5 = .ok (.new 7, 3) := by decide +kernel
theorem dX2_init_8 : decode cX2_init 8 = .ok (.dup, 1) := by decide +kernel
theorem dX2_init_9 : decode cX2_init 9 = .ok (.invokespecial 9, 3) := by decide +kernel
theorem dX2_init_12 : decode cX2_init 12 = .ok (.putfield 10, 3) := by decide +kernel
theorem dX2_init_15 : decode cX2_init 15 = .ok (.aload_n 0, 1) := by decide +kernel
theorem dX2_init_16 : decode cX2_init 16 = .ok (.new 16, 3) := by decide +kernel
theorem dX2_init_19 : decode cX2_init 19 = .ok (.dup, 1) := by decide +kernel
theorem dX2_init_20 : decode cX2_init 20 = .ok (.aload_n 0, 1) := by decide +kernel
theorem dX2_init_21 : decode cX2_init 21 = .ok (.getfield 10, 3) := by decide +kernel
theorem dX2_init_24 : decode cX2_init 24 = .ok (.invokespecial 18, 3) := by decide +kernel
theorem dX2_init_27 : decode cX2_init 27 = .ok (.putfield 21, 3) := by decide +kernel
theorem dX2_init_30 : decode cX2_init 30 = .ok (.aload_n 0, 1) := by decide +kernel
theorem dX2_init_31 : decode cX2_init 31 = .ok (.new 16, 3) := by decide +kernel
theorem dX2_init_34 : decode cX2_init 34 = .ok (.dup, 1) := by decide +kernel
theorem dX2_init_35 : decode cX2_init 35 = .ok (.aload_n 0, 1) := by decide +kernel
theorem dX2_init_36 : decode cX2_init 36 = .ok (.getfield 10, 3) := by decide +kernel
theorem dX2_init_39 : decode cX2_init 39 = .ok (.invokespecial 18, 3) := by decide +kernel
theorem dX2_init_42 : decode cX2_init 42 = .ok (.putfield 25, 3) := by decide +kernel
theorem dX2_init_45 : decode cX2_init 45 = .ok (.return_, 1) := by decide +kernel
