theorem dX3_blame_0 : decode cX3_blame 0 = .ok (.aload_n 0, 1) := by decide +kernel
theorem dX3_blame_1 : decode cX3_blame 1 = .ok (.iload_n 1, 1) := by decide +kernel
theorem dX3_blame_2 : decode cX3_blame 2 = .ok (.putfield 9, 3) := by decide +kernel
theorem dX3_blame_5 : decode cX3_blame 5 = .ok (.aload_n 0, 1) := by decide +kernel
theorem dX3_blame_6 : decode cX3_blame 6 = .ok (.iload_n 2, 1) := by decide +kernel
theorem dX3_blame_7 : decode cX3_blame 7 = .ok (.putfield 15, 3) := by decide +kernel
theorem dX3_blame_10 : decode cX3_blame 10 = .ok (.aload_n 0, 1) := by decide +kernel
theorem dX3_blame_11 : decode cX3_blame 11 = .ok (.iload_n 3, 1) := by decide +kernel
theorem dX3_blame_12 : decode cX3_blame 12 = .ok (.putfield 18, 3) := by decide +kernel
theorem dX3_blame_15 : decode cX3_blame 15 = .ok (.iconst 1, 1) := by decide +kernel
theorem dX3_blame_16 : decode cX3_blame 16 = .ok (.ireturn, 1) := by decide +kernel
theorem dX3_findBigModule_0 : decode cX3_findBigModule 0 = .ok (.iconst 0, 1) := by decide +kernel
theorem dX3_findBigModule_1 : decode cX3_findBigModule 1 = .ok (.istore_n 1, 1) := by decide +kernel
theorem dX3_findBigModule_2 : decode cX3_findBigModule 2 = .ok (.iload_n 1, 1) := by decide +kernel
theorem dX3_findBigModule_3 : decode cX3_findBigModule 3 = .ok (.aload_n 0, 1) := by decide +kernel
theorem dX3_findBigModule_4 : decode cX3_findBigModule 4 = .ok (.getfield 21, 3) := by decide +kernel
theorem dX3_findBigModule_7 : decode cX3_findBigModule 7 = .ok (.getfield 118, 3) := by decide +kernel
theorem dX3_findBigModule_10 : decode cX3_findBigModule 10 = .ok (.if_icmp .ge 51, 3) := by decide +kernel
theorem dX3_findBigModule_13 : decode cX3_findBigModule 13 = .ok (.aload_n 0, 1) := by decide +kernel
theorem dX3_findBigModule_14 : decode cX3_findBigModule 14 = .ok (.getfield 21, 3) := by decide +kernel
theorem dX3_findBigModule_17 : decode cX3_findBigModule 17 = .ok (.getfield 121, 3) := by decide +kernel
theorem dX3_findBigModule_20 : decode cX3_findBigModule 20 = .ok (.iload_n 1, 1) := by decide +kernel
theorem dX3_findBigModule_21 : decode cX3_findBigModule 21 = .ok (.iaload, 1) := by decide +kernel
theorem dX3_findBigModule_22 : decode cX3_findBigModule 22 = .ok (.iconst 1, 1) := by decide +kernel
theorem dX3_findBigModule_23 : decode cX3_findBigModule 23 = .ok (.if_icmp .ne 32, 3) := by decide +kernel
theorem dX3_findBigModule_26 : decode cX3_findBigModule 26 = .ok (.aload_n 0, 1) := by decide +kernel
theorem dX3_findBigModule_27 : decode cX3_findBigModule 27 = .ok (.getfield 29, 3) := by decide +kernel
theorem dX3_findBigModule_30 : decode cX3_findBigModule 30 = .ok (.getfield 124, 3) := by decide +kernel
theorem dX3_findBigModule_33 : decode cX3_findBigModule 33 = .ok (.iload_n 1, 1) := by decide +kernel
theorem dX3_findBigModule_34 : decode cX3_findBigModule 34 = .ok (.iaload, 1) := by decide +kernel
theorem dX3_findBigModule_35 : decode cX3_findBigModule 35 = .ok (.aload_n 0, 1) := by decide +kernel
theorem dX3_findBigModule_36 : decode cX3_findBigModule 36 = .ok (.getfield 21, 3) := by decide +kernel
theorem dX3_findBigModule_39 : decode cX3_findBigModule 39 = .ok (.getfield 127, 3) := by decide +kernel
theorem dX3_findBigModule_42 : decode cX3_findBigModule 42 = .ok (.iconst 1, 1) := by decide +kernel
theorem dX3_findBigModule_43 : decode cX3_findBigModule 43 = .ok (.iaload, 1) := by decide +kernel
theorem dX3_findBigModule_44 : decode cX3_findBigModule 44 = .ok (.if_icmp .le 11, 3) := by decide +kernel
theorem dX3_findBigModule_47 : decode cX3_findBigModule 47 = .ok (.aload_n 0, 1) := by decide +kernel
theorem dX3_findBigModule_48 : decode cX3_findBigModule 48 = .ok (.iconst 3, 1) := by decide +kernel
theorem dX3_findBigModule_49 : decode cX3_findBigModule 49 = .ok (.iload_n 1, 1) := by decide +kernel
theorem dX3_findBigModule_50 : decode cX3_findBigModule 50 = .ok (.iconst (-1), 1) := by decide +kernel
theorem dX3_findBigModule_51 : decode cX3_findBigModule 51 = .ok (.invokevirtual 37, 3) := by decide +kernel
theorem dX3_findBigModule_54 : decode cX3_findBigModule 54 = .ok (.ireturn, 1) := by decide +kernel
theorem dX3_findBigModule_55 : decode cX3_findBigModule 55 = .ok (.iinc 1 1, 3) := by decide +kernel
theorem dX3_findBigModule_58 : decode cX3_findBigModule 58 = .ok (.goto (-56), 3) := by decide +kernel
theorem dX3_findBigModule_61 : decode cX3_findBigModule 61 = .ok (.iconst 0, 1) := by decide +kernel
theorem dX3_findBigModule_62 : decode cX3_findBigModule 62 = .ok (.ireturn, 1) := by decide +kernel
theorem dX3_findFewCells_0 : decode cX3_findFewCells 0 = .ok (.iconst 0, 1) := by decide +kernel
theorem dX3_findFewCells_1 : decode cX3_findFewCells 1 = .ok (.istore_n 1, 1) := by decide +kernel
theorem dX3_findFewCells_2 : decode cX3_findFewCells 2 = .ok (.iload_n 1, 1) := by decide +kernel
theorem dX3_findFewCells_3 : decode cX3_findFewCells 3 = .ok (.aload_n 0, 1) := by decide +kernel
theorem dX3_findFewCells_4 : decode cX3_findFewCells 4 = .ok (.getfield 21, 3) := by decide +kernel
theorem dX3_findFewCells_7 : decode cX3_findFewCells 7 = .ok (.getfield 98, 3) := by decide +kernel
theorem dX3_findFewCells_10 : decode cX3_findFewCells 10 = .ok (.if_icmp .ge 49, 3) := by decide +kernel
theorem dX3_findFewCells_13 : decode cX3_findFewCells 13 = .ok (.aload_n 0, 1) := by decide +kernel
theorem dX3_findFewCells_14 : decode cX3_findFewCells 14 = .ok (.getfield 29, 3) := by decide +kernel
theorem dX3_findFewCells_17 : decode cX3_findFewCells 17 = .ok (.getfield 137, 3) := by decide +kernel
theorem dX3_findFewCells_20 : decode cX3_findFewCells 20 = .ok (.iload_n 1, 1) := by decide +kernel
theorem dX3_findFewCells_21 : decode cX3_findFewCells 21 = .ok (.iaload, 1) := by decide +kernel
theorem dX3_findFewCells_22 : decode cX3_findFewCells 22 = .ok (.aload_n 0, 1) := by decide +kernel
theorem dX3_findFewCells_23 : decode cX3_findFewCells 23 = .ok (.getfield 21, 3) := by decide +kernel
theorem dX3_findFewCells_26 : decode cX3_findFewCells 26 = .ok (.getfield 140, 3) := by decide +kernel
theorem dX3_findFewCells_29 : decode cX3_findFewCells 29 = .ok (.iload_n 1, 1) := by decide +kernel
theorem dX3_findFewCells_30 : decode cX3_findFewCells 30 = .ok (.iaload, 1) := by decide +kernel
theorem dX3_findFewCells_31 : decode cX3_findFewCells 31 = .ok (.iadd, 1) := by decide +kernel
theorem dX3_findFewCells_32 : decode cX3_findFewCells 32 = .ok (.aload_n 0, 1) := by decide +kernel
theorem dX3_findFewCells_33 : decode cX3_findFewCells 33 = .ok (.getfield 21, 3) := by decide +kernel
theorem dX3_findFewCells_36 : decode cX3_findFewCells 36 = .ok (.getfield 127, 3) := by decide +kernel
theorem dX3_findFewCells_39 : decode cX3_findFewCells 39 = .ok (.iconst 4, 1) := by decide +kernel
theorem dX3_findFewCells_40 : decode cX3_findFewCells 40 = .ok (.iaload, 1) := by decide +kernel
theorem dX3_findFewCells_41 : decode cX3_findFewCells 41 = .ok (.if_icmp .le 12, 3) := by decide +kernel
theorem dX3_findFewCells_44 : decode cX3_findFewCells 44 = .ok (.aload_n 0, 1) := by decide +kernel
theorem dX3_findFewCells_45 : decode cX3_findFewCells 45 = .ok (.bipush 6, 2) := by decide +kernel
theorem dX3_findFewCells_47 : decode cX3_findFewCells 47 = .ok (.iload_n 1, 1) := by decide +kernel
theorem dX3_findFewCells_48 : decode cX3_findFewCells 48 = .ok (.iconst (-1), 1) := by decide +kernel
theorem dX3_findFewCells_49 : decode cX3_findFewCells 49 = .ok (.invokevirtual 37, 3) := by decide +kernel
theorem dX3_findFewCells_52 : decode cX3_findFewCells 52 = .ok (.ireturn, 1) := by decide +kernel
theorem dX3_findFewCells_53 : decode cX3_findFewCells 53 = .ok (.iinc 1 1, 3) := by decide +kernel
theorem dX3_findFewCells_56 : decode cX3_findFewCells 56 = .ok (.goto (-54), 3) := by decide +kernel
theorem dX3_findFewCells_59 : decode cX3_findFewCells 59 = .ok (.iconst 0, 1) := by decide +kernel
theorem dX3_findFewCells_60 : decode cX3_findFewCells 60 = .ok (.ireturn, 1) := by decide +kernel
theorem dX3_findLoopOfCalls_0 : decode cX3_findLoopOfCalls 0 = .ok (.iconst 0, 1) := by decide +kernel
theorem dX3_findLoopOfCalls_1 : decode cX3_findLoopOfCalls 1 = .ok (.istore_n 1, 1) := by decide +kernel
theorem dX3_findLoopOfCalls_2 : decode cX3_findLoopOfCalls 2 = .ok (.iload_n 1, 1) := by decide +kernel
theorem dX3_findLoopOfCalls_3 : decode cX3_findLoopOfCalls 3 = .ok (.aload_n 0, 1) := by decide +kernel
theorem dX3_findLoopOfCalls_4 : decode cX3_findLoopOfCalls 4 = .ok (.getfield 21, 3) := by decide +kernel
theorem dX3_findLoopOfCalls_7 : decode cX3_findLoopOfCalls 7 = .ok (.getfield 98, 3) := by decide +kernel
theorem dX3_findLoopOfCalls_10 : decode cX3_findLoopOfCalls 10 = .ok (.if_icmp .ge 29, 3) := by decide +kernel
theorem dX3_findLoopOfCalls_13 : decode cX3_findLoopOfCalls 13 = .ok (.aload_n 0, 1) := by decide +kernel
theorem dX3_findLoopOfCalls_14 : decode cX3_findLoopOfCalls 14 = .ok (.getfield 25, 3) := by decide +kernel
theorem dX3_findLoopOfCalls_17 : decode cX3_findLoopOfCalls 17 = .ok (.iload_n 1, 1) := by decide +kernel
theorem dX3_findLoopOfCalls_18 : decode cX3_findLoopOfCalls 18 = .ok (.iload_n 1, 1) := by decide +kernel
theorem dX3_findLoopOfCalls_19 : decode cX3_findLoopOfCalls 19 = .ok (.invokevirtual 115, 3) := by decide +kernel
theorem dX3_findLoopOfCalls_22 : decode cX3_findLoopOfCalls 22 = .ok (.ifCond .eq 11, 3) := by decide +kernel
theorem dX3_findLoopOfCalls_25 : decode cX3_findLoopOfCalls 25 = .ok (.aload_n 0, 1) := by decide +kernel
theorem dX3_findLoopOfCalls_26 : decode cX3_findLoopOfCalls 26 = .ok (.iconst 2, 1) := by decide +kernel
theorem dX3_findLoopOfCalls_27 : decode cX3_findLoopOfCalls 27 = .ok (.iload_n 1, 1) := by decide +kernel
theorem dX3_findLoopOfCalls_28 : decode cX3_findLoopOfCalls 28 = .ok (.iconst (-1), 1) := by decide +kernel
theorem dX3_findLoopOfCalls_29 : decode cX3_findLoopOfCalls 29 = .ok (.invokevirtual 37, 3) := by decide +kernel
theorem dX3_findLoopOfCalls_32 : decode cX3_findLoopOfCalls 32 = .ok (.ireturn, 1) := by decide +kernel
theorem dX3_findLoopOfCalls_33 : decode cX3_findLoopOfCalls 33 = .ok (.iinc 1 1, 3) := by decide +kernel
theorem dX3_findLoopOfCalls_36 : decode cX3_findLoopOfCalls 36 = .ok (.goto (-34), 3) := by decide +kernel
theorem dX3_findLoopOfCalls_39 : decode cX3_findLoopOfCalls 39 = .ok (.iconst 0, 1) := by decide +kernel
theorem dX3_findLoopOfCalls_40 : decode cX3_findLoopOfCalls 40 = .ok (.ireturn, 1) := by decide +kernel
theorem dX3_findLowStack_0 : decode cX3_findLowStack 0 = .ok (.iconst 0, 1) := by decide +kernel
theorem dX3_findLowStack_1 : decode cX3_findLowStack 1 = .ok (.istore_n 1, 1) := by decide +kernel
theorem dX3_findLowStack_2 : decode cX3_findLowStack 2 = .ok (.iload_n 1, 1) := by decide +kernel
theorem dX3_findLowStack_3 : decode cX3_findLowStack 3 = .ok (.aload_n 0, 1) := by decide +kernel
theorem dX3_findLowStack_4 : decode cX3_findLowStack 4 = .ok (.getfield 21, 3) := by decide +kernel
theorem dX3_findLowStack_7 : decode cX3_findLowStack 7 = .ok (.getfield 98, 3) := by decide +kernel
theorem dX3_findLowStack_10 : decode cX3_findLowStack 10 = .ok (.if_icmp .ge 39, 3) := by decide +kernel
theorem dX3_findLowStack_13 : decode cX3_findLowStack 13 = .ok (.aload_n 0, 1) := by decide +kernel
theorem dX3_findLowStack_14 : decode cX3_findLowStack 14 = .ok (.getfield 29, 3) := by decide +kernel
theorem dX3_findLowStack_17 : decode cX3_findLowStack 17 = .ok (.getfield 143, 3) := by decide +kernel
theorem dX3_findLowStack_20 : decode cX3_findLowStack 20 = .ok (.iload_n 1, 1) := by decide +kernel
theorem dX3_findLowStack_21 : decode cX3_findLowStack 21 = .ok (.iaload, 1) := by decide +kernel
theorem dX3_findLowStack_22 : decode cX3_findLowStack 22 = .ok (.aload_n 0, 1) := by decide +kernel
theorem dX3_findLowStack_23 : decode cX3_findLowStack 23 = .ok (.getfield 21, 3) := by decide +kernel
theorem dX3_findLowStack_26 : decode cX3_findLowStack 26 = .ok (.getfield 127, 3) := by decide +kernel
theorem dX3_findLowStack_29 : decode cX3_findLowStack 29 = .ok (.iconst 3, 1) := by decide +kernel
theorem dX3_findLowStack_30 : decode cX3_findLowStack 30 = .ok (.iaload, 1) := by decide +kernel
theorem dX3_findLowStack_31 : decode cX3_findLowStack 31 = .ok (.if_icmp .le 12, 3) := by decide +kernel
theorem dX3_findLowStack_34 : decode cX3_findLowStack 34 = .ok (.aload_n 0, 1) := by decide +kernel
theorem dX3_findLowStack_35 : decode cX3_findLowStack 35 = .ok (.bipush 7, 2) := by decide +kernel
theorem dX3_findLowStack_37 : decode cX3_findLowStack 37 = .ok (.iload_n 1, 1) := by decide +kernel
theorem dX3_findLowStack_38 : decode cX3_findLowStack 38 = .ok (.iconst (-1), 1) := by decide +kernel
theorem dX3_findLowStack_39 : decode cX3_findLowStack 39 = .ok (.invokevirtual 37, 3) := by decide +kernel
theorem dX3_findLowStack_42 : decode cX3_findLowStack 42 = .ok (.ireturn, 1) := by decide +kernel
theorem dX3_findLowStack_43 : decode cX3_findLowStack 43 = .ok (.iinc 1 1, 3) := by decide +kernel
theorem dX3_findLowStack_46 : decode cX3_findLowStack 46 = .ok (.goto (-44), 3) := by decide +kernel
theorem dX3_findLowStack_49 : decode cX3_findLowStack 49 = .ok (.iconst 0, 1) := by decide +kernel
theorem dX3_findLowStack_50 : decode cX3_findLowStack 50 = .ok (.ireturn, 1) := by decide +kernel
theorem dX3_findNoRoom_0 : decode cX3_findNoRoom 0 = .ok (.aload_n 0, 1) := by decide +kernel
theorem dX3_findNoRoom_1 : decode cX3_findNoRoom 1 = .ok (.getfield 29, 3) := by decide +kernel
theorem dX3_findNoRoom_4 : decode cX3_findNoRoom 4 = .ok (.aload_n 0, 1) := by decide +kernel
theorem dX3_findNoRoom_5 : decode cX3_findNoRoom 5 = .ok (.getfield 21, 3) := by decide +kernel
theorem dX3_findNoRoom_8 : decode cX3_findNoRoom 8 = .ok (.invokevirtual 130, 3) := by decide +kernel
theorem dX3_findNoRoom_11 : decode cX3_findNoRoom 11 = .ok (.istore_n 1, 1) := by decide +kernel
theorem dX3_findNoRoom_12 : decode cX3_findNoRoom 12 = .ok (.iload_n 1, 1) := by decide +kernel
theorem dX3_findNoRoom_13 : decode cX3_findNoRoom 13 = .ok (.iconst (-1), 1) := by decide +kernel
theorem dX3_findNoRoom_14 : decode cX3_findNoRoom 14 = .ok (.if_icmp .eq 17, 3) := by decide +kernel
theorem dX3_findNoRoom_17 : decode cX3_findNoRoom 17 = .ok (.aload_n 0, 1) := by decide +kernel
theorem dX3_findNoRoom_18 : decode cX3_findNoRoom 18 = .ok (.iconst 4, 1) := by decide +kernel
theorem dX3_findNoRoom_19 : decode cX3_findNoRoom 19 = .ok (.iload_n 1, 1) := by decide +kernel
theorem dX3_findNoRoom_20 : decode cX3_findNoRoom 20 = .ok (.iconst (-1), 1) := by decide +kernel
theorem dX3_findNoRoom_21 : decode cX3_findNoRoom 21 = .ok (.invokevirtual 37, 3) := by decide +kernel
theorem dX3_findNoRoom_24 : decode cX3_findNoRoom 24 = .ok (.ifCond .eq 7, 3) := by decide +kernel
theorem dX3_findNoRoom_27 : decode cX3_findNoRoom 27 = .ok (.iconst 1, 1) := by decide +kernel
theorem dX3_findNoRoom_28 : decode cX3_findNoRoom 28 = .ok (.goto 4, 3) := by decide +kernel
theorem dX3_findNoRoom_31 : decode cX3_findNoRoom 31 = .ok (.iconst 0, 1) := by decide +kernel
theorem dX3_findNoRoom_32 : decode cX3_findNoRoom 32 = .ok (.ireturn, 1) := by decide +kernel
theorem dX3_findSmallCommon_0 : decode cX3_findSmallCommon 0 = .ok (.aload_n 0, 1) := by decide +kernel
theorem dX3_findSmallCommon_1 : decode cX3_findSmallCommon 1 = .ok (.getfield 29, 3) := by decide +kernel
theorem dX3_findSmallCommon_4 : decode cX3_findSmallCommon 4 = .ok (.getfield 134, 3) := by decide +kernel
theorem dX3_findSmallCommon_7 : decode cX3_findSmallCommon 7 = .ok (.aload_n 0, 1) := by decide +kernel
theorem dX3_findSmallCommon_8 : decode cX3_findSmallCommon 8 = .ok (.getfield 21, 3) := by decide +kernel
theorem dX3_findSmallCommon_11 : decode cX3_findSmallCommon 11 = .ok (.getfield 127, 3) := by decide +kernel
theorem dX3_findSmallCommon_14 : decode cX3_findSmallCommon 14 = .ok (.iconst 2, 1) := by decide +kernel
theorem dX3_findSmallCommon_15 : decode cX3_findSmallCommon 15 = .ok (.iaload, 1) := by decide +kernel
theorem dX3_findSmallCommon_16 : decode cX3_findSmallCommon 16 = .ok (.if_icmp .le 17, 3) := by decide +kernel
theorem dX3_findSmallCommon_19 : decode cX3_findSmallCommon 19 = .ok (.aload_n 0, 1) := by decide +kernel
theorem dX3_findSmallCommon_20 : decode cX3_findSmallCommon 20 = .ok (.iconst 5, 1) := by decide +kernel
theorem dX3_findSmallCommon_21 : decode cX3_findSmallCommon 21 = .ok (.iconst (-1), 1) := by decide +kernel
theorem dX3_findSmallCommon_22 : decode cX3_findSmallCommon 22 = .ok (.iconst (-1), 1) := by decide +kernel
theorem dX3_findSmallCommon_23 : decode cX3_findSmallCommon 23 = .ok (.invokevirtual 37, 3) := by decide +kernel
theorem dX3_findSmallCommon_26 : decode cX3_findSmallCommon 26 = .ok (.ifCond .eq 7, 3) := by decide +kernel
theorem dX3_findSmallCommon_29 : decode cX3_findSmallCommon 29 = .ok (.iconst 1, 1) := by decide +kernel
theorem dX3_findSmallCommon_30 : decode cX3_findSmallCommon 30 = .ok (.goto 4, 3) := by decide +kernel
theorem dX3_findSmallCommon_33 : decode cX3_findSmallCommon 33 = .ok (.iconst 0, 1) := by decide +kernel
theorem dX3_findSmallCommon_34 : decode cX3_findSmallCommon 34 = .ok (.ireturn, 1) := by decide +kernel
theorem dX3_findStrayJump_0 : decode cX3_findStrayJump 0 = .ok (.iconst 0, 1) := by decide +kernel
theorem dX3_findStrayJump_1 : decode cX3_findStrayJump 1 = .ok (.istore_n 1, 1) := by decide +kernel
theorem dX3_findStrayJump_2 : decode cX3_findStrayJump 2 = .ok (.iload_n 1, 1) := by decide +kernel
theorem dX3_findStrayJump_3 : decode cX3_findStrayJump 3 = .ok (.aload_n 0, 1) := by decide +kernel
theorem dX3_findStrayJump_4 : decode cX3_findStrayJump 4 = .ok (.getfield 21, 3) := by decide +kernel
theorem dX3_findStrayJump_7 : decode cX3_findStrayJump 7 = .ok (.getfield 98, 3) := by decide +kernel
theorem dX3_findStrayJump_10 : decode cX3_findStrayJump 10 = .ok (.if_icmp .ge 71, 3) := by decide +kernel
theorem dX3_findStrayJump_13 : decode cX3_findStrayJump 13 = .ok (.iconst 0, 1) := by decide +kernel
theorem dX3_findStrayJump_14 : decode cX3_findStrayJump 14 = .ok (.istore_n 2, 1) := by decide +kernel
theorem dX3_findStrayJump_15 : decode cX3_findStrayJump 15 = .ok (.iload_n 2, 1) := by decide +kernel
theorem dX3_findStrayJump_16 : decode cX3_findStrayJump 16 = .ok (.aload_n 0, 1) := by decide +kernel
theorem dX3_findStrayJump_17 : decode cX3_findStrayJump 17 = .ok (.getfield 21, 3) := by decide +kernel
theorem dX3_findStrayJump_20 : decode cX3_findStrayJump 20 = .ok (.getfield 103, 3) := by decide +kernel
theorem dX3_findStrayJump_23 : decode cX3_findStrayJump 23 = .ok (.iload_n 1, 1) := by decide +kernel
theorem dX3_findStrayJump_24 : decode cX3_findStrayJump 24 = .ok (.iaload, 1) := by decide +kernel
theorem dX3_findStrayJump_25 : decode cX3_findStrayJump 25 = .ok (.if_icmp .ge 50, 3) := by decide +kernel
theorem dX3_findStrayJump_28 : decode cX3_findStrayJump 28 = .ok (.aload_n 0, 1) := by decide +kernel
theorem dX3_findStrayJump_29 : decode cX3_findStrayJump 29 = .ok (.getfield 21, 3) := by decide +kernel
theorem dX3_findStrayJump_32 : decode cX3_findStrayJump 32 = .ok (.iload_n 1, 1) := by decide +kernel
theorem dX3_findStrayJump_33 : decode cX3_findStrayJump 33 = .ok (.iload_n 2, 1) := by decide +kernel
theorem dX3_findStrayJump_34 : decode cX3_findStrayJump 34 = .ok (.invokevirtual 107, 3) := by decide +kernel
theorem dX3_findStrayJump_37 : decode cX3_findStrayJump 37 = .ok (.ifCond .eq 32, 3) := by decide +kernel
theorem dX3_findStrayJump_40 : decode cX3_findStrayJump 40 = .ok (.aload_n 0, 1) := by decide +kernel
theorem dX3_findStrayJump_41 : decode cX3_findStrayJump 41 = .ok (.getfield 21, 3) := by decide +kernel
theorem dX3_findStrayJump_44 : decode cX3_findStrayJump 44 = .ok (.iload_n 1, 1) := by decide +kernel
theorem dX3_findStrayJump_45 : decode cX3_findStrayJump 45 = .ok (.iload_n 2, 1) := by decide +kernel
theorem dX3_findStrayJump_46 : decode cX3_findStrayJump 46 = .ok (.invokevirtual 111, 3) := by decide +kernel
theorem dX3_findStrayJump_49 : decode cX3_findStrayJump 49 = .ok (.aload_n 0, 1) := by decide +kernel
theorem dX3_findStrayJump_50 : decode cX3_findStrayJump 50 = .ok (.getfield 21, 3) := by decide +kernel
theorem dX3_findStrayJump_53 : decode cX3_findStrayJump 53 = .ok (.getfield 103, 3) := by decide +kernel
theorem dX3_findStrayJump_56 : decode cX3_findStrayJump 56 = .ok (.iload_n 1, 1) := by decide +kernel
theorem dX3_findStrayJump_57 : decode cX3_findStrayJump 57 = .ok (.iaload, 1) := by decide +kernel
theorem dX3_findStrayJump_58 : decode cX3_findStrayJump 58 = .ok (.if_icmp .le 11, 3) := by decide +kernel
theorem dX3_findStrayJump_61 : decode cX3_findStrayJump 61 = .ok (.aload_n 0, 1) := by decide +kernel
theorem dX3_findStrayJump_62 : decode cX3_findStrayJump 62 = .ok (.iconst 1, 1) := by decide +kernel
theorem dX3_findStrayJump_63 : decode cX3_findStrayJump 63 = .ok (.iload_n 1, 1) := by decide +kernel
theorem dX3_findStrayJump_64 : decode cX3_findStrayJump 64 = .ok (.iload_n 2, 1) := by decide +kernel
theorem dX3_findStrayJump_65 : decode cX3_findStrayJump 65 = .ok (.invokevirtual 37, 3) := by decide +kernel
theorem dX3_findStrayJump_68 : decode cX3_findStrayJump 68 = .ok (.ireturn, 1) := by decide +kernel
theorem dX3_findStrayJump_69 : decode cX3_findStrayJump 69 = .ok (.iinc 2 1, 3) := by decide +kernel
theorem dX3_findStrayJump_72 : decode cX3_findStrayJump 72 = .ok (.goto (-57), 3) := by decide +kernel
theorem dX3_findStrayJump_75 : decode cX3_findStrayJump 75 = .ok (.iinc 1 1, 3) := by decide +kernel
theorem dX3_findStrayJump_78 : decode cX3_findStrayJump 78 = .ok (.goto (-76), 3) := by decide +kernel
theorem dX3_findStrayJump_81 : decode cX3_findStrayJump 81 = .ok (.iconst 0, 1) := by decide +kernel
theorem dX3_findStrayJump_82 : decode cX3_findStrayJump 82 = .ok (.ireturn, 1) := by decide +kernel
theorem dX3_writeOp_0 : decode cX3_writeOp 0 = .ok (.aload_n 0, 1) := by decide +kernel
theorem dX3_writeOp_1 : decode cX3_writeOp 1 = .ok (.getfield 29, 3) := by decide +kernel
theorem dX3_writeOp_4 : decode cX3_writeOp 4 = .ok (.getfield 153, 3) := by decide +kernel
theorem dX3_writeOp_7 : decode cX3_writeOp 7 = .ok (.iload_n 1, 1) := by decide +kernel
theorem dX3_writeOp_8 : decode cX3_writeOp 8 = .ok (.iaload, 1) := by decide +kernel
theorem dX3_writeOp_9 : decode cX3_writeOp 9 = .ok (.istore_n 3, 1) := by decide +kernel
theorem dX3_writeOp_10 : decode cX3_writeOp 10 = .ok (.aload_n 0, 1) := by decide +kernel
theorem dX3_writeOp_11 : decode cX3_writeOp 11 = .ok (.getfield 21, 3) := by decide +kernel
theorem dX3_writeOp_14 : decode cX3_writeOp 14 = .ok (.iload_n 1, 1) := by decide +kernel
theorem dX3_writeOp_15 : decode cX3_writeOp 15 = .ok (.iload_n 2, 1) := by decide +kernel
theorem dX3_writeOp_16 : decode cX3_writeOp 16 = .ok (.invokevirtual 163, 3) := by decide +kernel
theorem dX3_writeOp_19 : decode cX3_writeOp 19 = .ok (.istore 4, 2) := by decide +kernel
theorem dX3_writeOp_21 : decode cX3_writeOp 21 = .ok (.aload_n 0, 1) := by decide +kernel
theorem dX3_writeOp_22 : decode cX3_writeOp 22 = .ok (.getfield 21, 3) := by decide +kernel
theorem dX3_writeOp_25 : decode cX3_writeOp 25 = .ok (.iload_n 1, 1) := by decide +kernel
theorem dX3_writeOp_26 : decode cX3_writeOp 26 = .ok (.iload_n 2, 1) := by decide +kernel
theorem dX3_writeOp_27 : decode cX3_writeOp 27 = .ok (.invokevirtual 111, 3) := by decide +kernel
theorem dX3_writeOp_30 : decode cX3_writeOp 30 = .ok (.istore 5, 2) := by decide +kernel
theorem dX3_writeOp_32 : decode cX3_writeOp 32 = .ok (.aload_n 0, 1) := by decide +kernel
theorem dX3_writeOp_33 : decode cX3_writeOp 33 = .ok (.getfield 33, 3) := by decide +kernel
theorem dX3_writeOp_36 : decode cX3_writeOp 36 = .ok (.iload_n 3, 1) := by decide +kernel
theorem dX3_writeOp_37 : decode cX3_writeOp 37 = .ok (.iload 4, 2) := by decide +kernel
theorem dX3_writeOp_39 : decode cX3_writeOp 39 = .ok (.invokevirtual 156, 3) := by decide +kernel
theorem dX3_writeOp_42 : decode cX3_writeOp 42 = .ok (.iload 4, 2) := by decide +kernel
theorem dX3_writeOp_44 : decode cX3_writeOp 44 = .ok (.tableswitch 164 0 7 #[48, 48, 164, 61, 61, 84, 131, 131], 48) := by decide +kernel
theorem dX3_writeOp_92 : decode cX3_writeOp 92 = .ok (.aload_n 0, 1) := by decide +kernel
theorem dX3_writeOp_93 : decode cX3_writeOp 93 = .ok (.getfield 33, 3) := by decide +kernel
theorem dX3_writeOp_96 : decode cX3_writeOp 96 = .ok (.iload_n 3, 1) := by decide +kernel
theorem dX3_writeOp_97 : decode cX3_writeOp 97 = .ok (.iload 5, 2) := by decide +kernel
theorem dX3_writeOp_99 : decode cX3_writeOp 99 = .ok (.invokevirtual 156, 3) := by decide +kernel
theorem dX3_writeOp_102 : decode cX3_writeOp 102 = .ok (.goto 106, 3) := by decide +kernel
theorem dX3_writeOp_105 : decode cX3_writeOp 105 = .ok (.aload_n 0, 1) := by decide +kernel
theorem dX3_writeOp_106 : decode cX3_writeOp 106 = .ok (.getfield 33, 3) := by decide +kernel
theorem dX3_writeOp_109 : decode cX3_writeOp 109 = .ok (.iload_n 3, 1) := by decide +kernel
theorem dX3_writeOp_110 : decode cX3_writeOp 110 = .ok (.aload_n 0, 1) := by decide +kernel
theorem dX3_writeOp_111 : decode cX3_writeOp 111 = .ok (.getfield 29, 3) := by decide +kernel
theorem dX3_writeOp_114 : decode cX3_writeOp 114 = .ok (.getfield 137, 3) := by decide +kernel
theorem dX3_writeOp_117 : decode cX3_writeOp 117 = .ok (.iload_n 1, 1) := by decide +kernel
theorem dX3_writeOp_118 : decode cX3_writeOp 118 = .ok (.iaload, 1) := by decide +kernel
theorem dX3_writeOp_119 : decode cX3_writeOp 119 = .ok (.iload 5, 2) := by decide +kernel
theorem dX3_writeOp_121 : decode cX3_writeOp 121 = .ok (.iadd, 1) := by decide +kernel
theorem dX3_writeOp_122 : decode cX3_writeOp 122 = .ok (.invokevirtual 156, 3) := by decide +kernel
theorem dX3_writeOp_125 : decode cX3_writeOp 125 = .ok (.goto 83, 3) := by decide +kernel
theorem dX3_writeOp_128 : decode cX3_writeOp 128 = .ok (.aload_n 0, 1) := by decide +kernel
theorem dX3_writeOp_129 : decode cX3_writeOp 129 = .ok (.getfield 33, 3) := by decide +kernel
theorem dX3_writeOp_132 : decode cX3_writeOp 132 = .ok (.iload_n 3, 1) := by decide +kernel
theorem dX3_writeOp_133 : decode cX3_writeOp 133 = .ok (.aload_n 0, 1) := by decide +kernel
theorem dX3_writeOp_134 : decode cX3_writeOp 134 = .ok (.getfield 29, 3) := by decide +kernel
theorem dX3_writeOp_137 : decode cX3_writeOp 137 = .ok (.iload_n 1, 1) := by decide +kernel
theorem dX3_writeOp_138 : decode cX3_writeOp 138 = .ok (.iload 5, 2) := by decide +kernel
theorem dX3_writeOp_140 : decode cX3_writeOp 140 = .ok (.invokevirtual 166, 3) := by decide +kernel
theorem dX3_writeOp_143 : decode cX3_writeOp 143 = .ok (.ifCond .eq 16, 3) := by decide +kernel
theorem dX3_writeOp_146 : decode cX3_writeOp 146 = .ok (.aload_n 0, 1) := by decide +kernel
theorem dX3_writeOp_147 : decode cX3_writeOp 147 = .ok (.getfield 29, 3) := by decide +kernel
theorem dX3_writeOp_150 : decode cX3_writeOp 150 = .ok (.getfield 169, 3) := by decide +kernel
theorem dX3_writeOp_153 : decode cX3_writeOp 153 = .ok (.iload 5, 2) := by decide +kernel
theorem dX3_writeOp_155 : decode cX3_writeOp 155 = .ok (.iaload, 1) := by decide +kernel
theorem dX3_writeOp_156 : decode cX3_writeOp 156 = .ok (.goto 13, 3) := by decide +kernel
theorem dX3_writeOp_159 : decode cX3_writeOp 159 = .ok (.aload_n 0, 1) := by decide +kernel
theorem dX3_writeOp_160 : decode cX3_writeOp 160 = .ok (.getfield 29, 3) := by decide +kernel
theorem dX3_writeOp_163 : decode cX3_writeOp 163 = .ok (.getfield 172, 3) := by decide +kernel
theorem dX3_writeOp_166 : decode cX3_writeOp 166 = .ok (.iload 5, 2) := by decide +kernel
theorem dX3_writeOp_168 : decode cX3_writeOp 168 = .ok (.iaload, 1) := by decide +kernel
theorem dX3_writeOp_169 : decode cX3_writeOp 169 = .ok (.invokevirtual 175, 3) := by decide +kernel
theorem dX3_writeOp_172 : decode cX3_writeOp 172 = .ok (.goto 36, 3) := by decide +kernel
theorem dX3_writeOp_175 : decode cX3_writeOp 175 = .ok (.aload_n 0, 1) := by decide +kernel
theorem dX3_writeOp_176 : decode cX3_writeOp 176 = .ok (.getfield 33, 3) := by decide +kernel
theorem dX3_writeOp_179 : decode cX3_writeOp 179 = .ok (.iload_n 3, 1) := by decide +kernel
theorem dX3_writeOp_180 : decode cX3_writeOp 180 = .ok (.aload_n 0, 1) := by decide +kernel
theorem dX3_writeOp_181 : decode cX3_writeOp 181 = .ok (.getfield 21, 3) := by decide +kernel
theorem dX3_writeOp_184 : decode cX3_writeOp 184 = .ok (.iload_n 1, 1) := by decide +kernel
theorem dX3_writeOp_185 : decode cX3_writeOp 185 = .ok (.iload 5, 2) := by decide +kernel
theorem dX3_writeOp_187 : decode cX3_writeOp 187 = .ok (.invokevirtual 178, 3) := by decide +kernel
theorem dX3_writeOp_190 : decode cX3_writeOp 190 = .ok (.aload_n 0, 1) := by decide +kernel
theorem dX3_writeOp_191 : decode cX3_writeOp 191 = .ok (.getfield 21, 3) := by decide +kernel
theorem dX3_writeOp_194 : decode cX3_writeOp 194 = .ok (.iload_n 1, 1) := by decide +kernel
theorem dX3_writeOp_195 : decode cX3_writeOp 195 = .ok (.iload_n 2, 1) := by decide +kernel
theorem dX3_writeOp_196 : decode cX3_writeOp 196 = .ok (.iconst 1, 1) := by decide +kernel
theorem dX3_writeOp_197 : decode cX3_writeOp 197 = .ok (.iadd, 1) := by decide +kernel
theorem dX3_writeOp_198 : decode cX3_writeOp 198 = .ok (.invokevirtual 178, 3) := by decide +kernel
theorem dX3_writeOp_201 : decode cX3_writeOp 201 = .ok (.isub, 1) := by decide +kernel
theorem dX3_writeOp_202 : decode cX3_writeOp 202 = .ok (.invokevirtual 156, 3) := by decide +kernel
theorem dX3_writeOp_205 : decode cX3_writeOp 205 = .ok (.goto 3, 3) := by decide +kernel
theorem dX3_writeOp_208 : decode cX3_writeOp 208 = .ok (.return_, 1) := by decide +kernel
theorem dX3_writeRoutine_0 : decode cX3_writeRoutine 0 = .ok (.aload_n 0, 1) := by decide +kernel
theorem dX3_writeRoutine_1 : decode cX3_writeRoutine 1 = .ok (.getfield 29, 3) := by decide +kernel
theorem dX3_writeRoutine_4 : decode cX3_writeRoutine 4 = .ok (.getfield 153, 3) := by decide +kernel
theorem dX3_writeRoutine_7 : decode cX3_writeRoutine 7 = .ok (.iload_n 1, 1) := by decide +kernel
theorem dX3_writeRoutine_8 : decode cX3_writeRoutine 8 = .ok (.iaload, 1) := by decide +kernel
theorem dX3_writeRoutine_9 : decode cX3_writeRoutine 9 = .ok (.istore_n 2, 1) := by decide +kernel
theorem dX3_writeRoutine_10 : decode cX3_writeRoutine 10 = .ok (.aload_n 0, 1) := by decide +kernel
theorem dX3_writeRoutine_11 : decode cX3_writeRoutine 11 = .ok (.getfield 21, 3) := by decide +kernel
theorem dX3_writeRoutine_14 : decode cX3_writeRoutine 14 = .ok (.getfield 140, 3) := by decide +kernel
theorem dX3_writeRoutine_17 : decode cX3_writeRoutine 17 = .ok (.iload_n 1, 1) := by decide +kernel
theorem dX3_writeRoutine_18 : decode cX3_writeRoutine 18 = .ok (.iaload, 1) := by decide +kernel
theorem dX3_writeRoutine_19 : decode cX3_writeRoutine 19 = .ok (.ifCond .le 47, 3) := by decide +kernel
theorem dX3_writeRoutine_22 : decode cX3_writeRoutine 22 = .ok (.aload_n 0, 1) := by decide +kernel
theorem dX3_writeRoutine_23 : decode cX3_writeRoutine 23 = .ok (.getfield 33, 3) := by decide +kernel
theorem dX3_writeRoutine_26 : decode cX3_writeRoutine 26 = .ok (.iload_n 2, 1) := by decide +kernel
theorem dX3_writeRoutine_27 : decode cX3_writeRoutine 27 = .ok (.bipush 12, 2) := by decide +kernel
theorem dX3_writeRoutine_29 : decode cX3_writeRoutine 29 = .ok (.invokevirtual 156, 3) := by decide +kernel
theorem dX3_writeRoutine_32 : decode cX3_writeRoutine 32 = .ok (.aload_n 0, 1) := by decide +kernel
theorem dX3_writeRoutine_33 : decode cX3_writeRoutine 33 = .ok (.getfield 33, 3) := by decide +kernel
theorem dX3_writeRoutine_36 : decode cX3_writeRoutine 36 = .ok (.iload_n 2, 1) := by decide +kernel
theorem dX3_writeRoutine_37 : decode cX3_writeRoutine 37 = .ok (.aload_n 0, 1) := by decide +kernel
theorem dX3_writeRoutine_38 : decode cX3_writeRoutine 38 = .ok (.getfield 29, 3) := by decide +kernel
theorem dX3_writeRoutine_41 : decode cX3_writeRoutine 41 = .ok (.getfield 137, 3) := by decide +kernel
theorem dX3_writeRoutine_44 : decode cX3_writeRoutine 44 = .ok (.iload_n 1, 1) := by decide +kernel
theorem dX3_writeRoutine_45 : decode cX3_writeRoutine 45 = .ok (.iaload, 1) := by decide +kernel
theorem dX3_writeRoutine_46 : decode cX3_writeRoutine 46 = .ok (.invokevirtual 156, 3) := by decide +kernel
theorem dX3_writeRoutine_49 : decode cX3_writeRoutine 49 = .ok (.aload_n 0, 1) := by decide +kernel
theorem dX3_writeRoutine_50 : decode cX3_writeRoutine 50 = .ok (.getfield 33, 3) := by decide +kernel
theorem dX3_writeRoutine_53 : decode cX3_writeRoutine 53 = .ok (.iload_n 2, 1) := by decide +kernel
theorem dX3_writeRoutine_54 : decode cX3_writeRoutine 54 = .ok (.aload_n 0, 1) := by decide +kernel
theorem dX3_writeRoutine_55 : decode cX3_writeRoutine 55 = .ok (.getfield 21, 3) := by decide +kernel
theorem dX3_writeRoutine_58 : decode cX3_writeRoutine 58 = .ok (.getfield 140, 3) := by decide +kernel
theorem dX3_writeRoutine_61 : decode cX3_writeRoutine 61 = .ok (.iload_n 1, 1) := by decide +kernel
theorem dX3_writeRoutine_62 : decode cX3_writeRoutine 62 = .ok (.iaload, 1) := by decide +kernel
theorem dX3_writeRoutine_63 : decode cX3_writeRoutine 63 = .ok (.invokevirtual 156, 3) := by decide +kernel
theorem dX3_writeRoutine_66 : decode cX3_writeRoutine 66 = .ok (.iconst 0, 1) := by decide +kernel
theorem dX3_writeRoutine_67 : decode cX3_writeRoutine 67 = .ok (.istore_n 3, 1) := by decide +kernel
theorem dX3_writeRoutine_68 : decode cX3_writeRoutine 68 = .ok (.iload_n 3, 1) := by decide +kernel
theorem dX3_writeRoutine_69 : decode cX3_writeRoutine 69 = .ok (.aload_n 0, 1) := by decide +kernel
theorem dX3_writeRoutine_70 : decode cX3_writeRoutine 70 = .ok (.getfield 21, 3) := by decide +kernel
theorem dX3_writeRoutine_73 : decode cX3_writeRoutine 73 = .ok (.getfield 103, 3) := by decide +kernel
theorem dX3_writeRoutine_76 : decode cX3_writeRoutine 76 = .ok (.iload_n 1, 1) := by decide +kernel
theorem dX3_writeRoutine_77 : decode cX3_writeRoutine 77 = .ok (.iaload, 1) := by decide +kernel
theorem dX3_writeRoutine_78 : decode cX3_writeRoutine 78 = .ok (.if_icmp .ge 15, 3) := by decide +kernel
theorem dX3_writeRoutine_81 : decode cX3_writeRoutine 81 = .ok (.aload_n 0, 1) := by decide +kernel
theorem dX3_writeRoutine_82 : decode cX3_writeRoutine 82 = .ok (.iload_n 1, 1) := by decide +kernel
theorem dX3_writeRoutine_83 : decode cX3_writeRoutine 83 = .ok (.iload_n 3, 1) := by decide +kernel
theorem dX3_writeRoutine_84 : decode cX3_writeRoutine 84 = .ok (.invokevirtual 160, 3) := by decide +kernel
theorem dX3_writeRoutine_87 : decode cX3_writeRoutine 87 = .ok (.iinc 3 1, 3) := by decide +kernel
theorem dX3_writeRoutine_90 : decode cX3_writeRoutine 90 = .ok (.goto (-22), 3) := by decide +kernel
theorem dX3_writeRoutine_93 : decode cX3_writeRoutine 93 = .ok (.aload_n 0, 1) := by decide +kernel
theorem dX3_writeRoutine_94 : decode cX3_writeRoutine 94 = .ok (.getfield 33, 3) := by decide +kernel
theorem dX3_writeRoutine_97 : decode cX3_writeRoutine 97 = .ok (.iload_n 2, 1) := by decide +kernel
theorem dX3_writeRoutine_98 : decode cX3_writeRoutine 98 = .ok (.bipush 8, 2) := by decide +kernel
theorem dX3_writeRoutine_100 : decode cX3_writeRoutine 100 = .ok (.invokevirtual 156, 3) := by decide +kernel
theorem dX3_writeRoutine_103 : decode cX3_writeRoutine 103 = .ok (.return_, 1) := by decide +kernel
theorem dX3_writeModules_0 : decode cX3_writeModules 0 = .ok (.iconst 0, 1) := by decide +kernel
theorem dX3_writeModules_1 : decode cX3_writeModules 1 = .ok (.istore_n 1, 1) := by decide +kernel
theorem dX3_writeModules_2 : decode cX3_writeModules 2 = .ok (.iload_n 1, 1) := by decide +kernel
theorem dX3_writeModules_3 : decode cX3_writeModules 3 = .ok (.aload_n 0, 1) := by decide +kernel
theorem dX3_writeModules_4 : decode cX3_writeModules 4 = .ok (.getfield 21, 3) := by decide +kernel
theorem dX3_writeModules_7 : decode cX3_writeModules 7 = .ok (.getfield 118, 3) := by decide +kernel
theorem dX3_writeModules_10 : decode cX3_writeModules 10 = .ok (.if_icmp .ge 46, 3) := by decide +kernel
theorem dX3_writeModules_13 : decode cX3_writeModules 13 = .ok (.iconst 0, 1) := by decide +kernel
theorem dX3_writeModules_14 : decode cX3_writeModules 14 = .ok (.istore_n 2, 1) := by decide +kernel
theorem dX3_writeModules_15 : decode cX3_writeModules 15 = .ok (.iload_n 2, 1) := by decide +kernel
theorem dX3_writeModules_16 : decode cX3_writeModules 16 = .ok (.aload_n 0, 1) := by decide +kernel
theorem dX3_writeModules_17 : decode cX3_writeModules 17 = .ok (.getfield 21, 3) := by decide +kernel
theorem dX3_writeModules_20 : decode cX3_writeModules 20 = .ok (.getfield 98, 3) := by decide +kernel
theorem dX3_writeModules_23 : decode cX3_writeModules 23 = .ok (.if_icmp .ge 27, 3) := by decide +kernel
theorem dX3_writeModules_26 : decode cX3_writeModules 26 = .ok (.aload_n 0, 1) := by decide +kernel
theorem dX3_writeModules_27 : decode cX3_writeModules 27 = .ok (.getfield 21, 3) := by decide +kernel
theorem dX3_writeModules_30 : decode cX3_writeModules 30 = .ok (.getfield 146, 3) := by decide +kernel
theorem dX3_writeModules_33 : decode cX3_writeModules 33 = .ok (.iload_n 2, 1) := by decide +kernel
theorem dX3_writeModules_34 : decode cX3_writeModules 34 = .ok (.iaload, 1) := by decide +kernel
theorem dX3_writeModules_35 : decode cX3_writeModules 35 = .ok (.iload_n 1, 1) := by decide +kernel
theorem dX3_writeModules_36 : decode cX3_writeModules 36 = .ok (.if_icmp .ne 8, 3) := by decide +kernel
theorem dX3_writeModules_39 : decode cX3_writeModules 39 = .ok (.aload_n 0, 1) := by decide +kernel
theorem dX3_writeModules_40 : decode cX3_writeModules 40 = .ok (.iload_n 2, 1) := by decide +kernel
theorem dX3_writeModules_41 : decode cX3_writeModules 41 = .ok (.invokevirtual 149, 3) := by decide +kernel
theorem dX3_writeModules_44 : decode cX3_writeModules 44 = .ok (.iinc 2 1, 3) := by decide +kernel
theorem dX3_writeModules_47 : decode cX3_writeModules 47 = .ok (.goto (-32), 3) := by decide +kernel
theorem dX3_writeModules_50 : decode cX3_writeModules 50 = .ok (.iinc 1 1, 3) := by decide +kernel
theorem dX3_writeModules_53 : decode cX3_writeModules 53 = .ok (.goto (-51), 3) := by decide +kernel
theorem dX3_writeModules_56 : decode cX3_writeModules 56 = .ok (.return_, 1) := by decide +kernel
theorem dX3_writeThunk_0 : decode cX3_writeThunk 0 = .ok (.aload_n 0, 1) := by decide +kernel
theorem dX3_writeThunk_1 : decode cX3_writeThunk 1 = .ok (.getfield 33, 3) := by decide +kernel
theorem dX3_writeThunk_4 : decode cX3_writeThunk 4 = .ok (.iconst (-1), 1) := by decide +kernel
theorem dX3_writeThunk_5 : decode cX3_writeThunk 5 = .ok (.bipush 9, 2) := by decide +kernel
theorem dX3_writeThunk_7 : decode cX3_writeThunk 7 = .ok (.invokevirtual 156, 3) := by decide +kernel
theorem dX3_writeThunk_10 : decode cX3_writeThunk 10 = .ok (.aload_n 0, 1) := by decide +kernel
theorem dX3_writeThunk_11 : decode cX3_writeThunk 11 = .ok (.getfield 33, 3) := by decide +kernel
theorem dX3_writeThunk_14 : decode cX3_writeThunk 14 = .ok (.iconst (-1), 1) := by decide +kernel
theorem dX3_writeThunk_15 : decode cX3_writeThunk 15 = .ok (.bipush 10, 2) := by decide +kernel
theorem dX3_writeThunk_17 : decode cX3_writeThunk 17 = .ok (.invokevirtual 156, 3) := by decide +kernel
theorem dX3_writeThunk_20 : decode cX3_writeThunk 20 = .ok (.aload_n 0, 1) := by decide +kernel
theorem dX3_writeThunk_21 : decode cX3_writeThunk 21 = .ok (.getfield 33, 3) := by decide +kernel
theorem dX3_writeThunk_24 : decode cX3_writeThunk 24 = .ok (.iconst (-1), 1) := by decide +kernel
theorem dX3_writeThunk_25 : decode cX3_writeThunk 25 = .ok (.aload_n 0, 1) := by decide +kernel
theorem dX3_writeThunk_26 : decode cX3_writeThunk 26 = .ok (.getfield 29, 3) := by decide +kernel
theorem dX3_writeThunk_29 : decode cX3_writeThunk 29 = .ok (.getfield 153, 3) := by decide +kernel
theorem dX3_writeThunk_32 : decode cX3_writeThunk 32 = .ok (.iload_n 1, 1) := by decide +kernel
theorem dX3_writeThunk_33 : decode cX3_writeThunk 33 = .ok (.iaload, 1) := by decide +kernel
theorem dX3_writeThunk_34 : decode cX3_writeThunk 34 = .ok (.invokevirtual 156, 3) := by decide +kernel
theorem dX3_writeThunk_37 : decode cX3_writeThunk 37 = .ok (.aload_n 0, 1) := by decide +kernel
theorem dX3_writeThunk_38 : decode cX3_writeThunk 38 = .ok (.getfield 33, 3) := by decide +kernel
theorem dX3_writeThunk_41 : decode cX3_writeThunk 41 = .ok (.iconst (-1), 1) := by decide +kernel
theorem dX3_writeThunk_42 : decode cX3_writeThunk 42 = .ok (.iconst 5, 1) := by decide +kernel
theorem dX3_writeThunk_43 : decode cX3_writeThunk 43 = .ok (.invokevirtual 156, 3) := by decide +kernel
theorem dX3_writeThunk_46 : decode cX3_writeThunk 46 = .ok (.aload_n 0, 1) := by decide +kernel
theorem dX3_writeThunk_47 : decode cX3_writeThunk 47 = .ok (.getfield 33, 3) := by decide +kernel
theorem dX3_writeThunk_50 : decode cX3_writeThunk 50 = .ok (.iconst (-1), 1) := by decide +kernel
theorem dX3_writeThunk_51 : decode cX3_writeThunk 51 = .ok (.aload_n 0, 1) := by decide +kernel
theorem dX3_writeThunk_52 : decode cX3_writeThunk 52 = .ok (.getfield 29, 3) := by decide +kernel
theorem dX3_writeThunk_55 : decode cX3_writeThunk 55 = .ok (.getfield 172, 3) := by decide +kernel
theorem dX3_writeThunk_58 : decode cX3_writeThunk 58 = .ok (.iload_n 1, 1) := by decide +kernel
theorem dX3_writeThunk_59 : decode cX3_writeThunk 59 = .ok (.iaload, 1) := by decide +kernel
theorem dX3_writeThunk_60 : decode cX3_writeThunk 60 = .ok (.invokevirtual 175, 3) := by decide +kernel
theorem dX3_writeThunk_63 : decode cX3_writeThunk 63 = .ok (.aload_n 0, 1) := by decide +kernel
theorem dX3_writeThunk_64 : decode cX3_writeThunk 64 = .ok (.getfield 33, 3) := by decide +kernel
theorem dX3_writeThunk_67 : decode cX3_writeThunk 67 = .ok (.iconst (-1), 1) := by decide +kernel
theorem dX3_writeThunk_68 : decode cX3_writeThunk 68 = .ok (.bipush 11, 2) := by decide +kernel
theorem dX3_writeThunk_70 : decode cX3_writeThunk 70 = .ok (.invokevirtual 156, 3) := by decide +kernel
theorem dX3_writeThunk_73 : decode cX3_writeThunk 73 = .ok (.aload_n 0, 1) := by decide +kernel
theorem dX3_writeThunk_74 : decode cX3_writeThunk 74 = .ok (.getfield 33, 3) := by decide +kernel
theorem dX3_writeThunk_77 : decode cX3_writeThunk 77 = .ok (.iconst (-1), 1) := by decide +kernel
theorem dX3_writeThunk_78 : decode cX3_writeThunk 78 = .ok (.bipush 8, 2) := by decide +kernel
theorem dX3_writeThunk_80 : decode cX3_writeThunk 80 = .ok (.invokevirtual 156, 3) := by decide +kernel
theorem dX3_writeThunk_83 : decode cX3_writeThunk 83 = .ok (.return_, 1) := by decide +kernel
theorem dX3_writeThunks_0 : decode cX3_writeThunks 0 = .ok (.iconst 0, 1) := by decide +kernel
theorem dX3_writeThunks_1 : decode cX3_writeThunks 1 = .ok (.istore_n 1, 1) := by decide +kernel
theorem dX3_writeThunks_2 : decode cX3_writeThunks 2 = .ok (.iload_n 1, 1) := by decide +kernel
theorem dX3_writeThunks_3 : decode cX3_writeThunks 3 = .ok (.aload_n 0, 1) := by decide +kernel
theorem dX3_writeThunks_4 : decode cX3_writeThunks 4 = .ok (.getfield 21, 3) := by decide +kernel
theorem dX3_writeThunks_7 : decode cX3_writeThunks 7 = .ok (.getfield 98, 3) := by decide +kernel
theorem dX3_writeThunks_10 : decode cX3_writeThunks 10 = .ok (.if_icmp .ge 27, 3) := by decide +kernel
theorem dX3_writeThunks_13 : decode cX3_writeThunks 13 = .ok (.aload_n 0, 1) := by decide +kernel
theorem dX3_writeThunks_14 : decode cX3_writeThunks 14 = .ok (.getfield 29, 3) := by decide +kernel
theorem dX3_writeThunks_17 : decode cX3_writeThunks 17 = .ok (.getfield 169, 3) := by decide +kernel
theorem dX3_writeThunks_20 : decode cX3_writeThunks 20 = .ok (.iload_n 1, 1) := by decide +kernel
theorem dX3_writeThunks_21 : decode cX3_writeThunks 21 = .ok (.iaload, 1) := by decide +kernel
theorem dX3_writeThunks_22 : decode cX3_writeThunks 22 = .ok (.iconst (-1), 1) := by decide +kernel
theorem dX3_writeThunks_23 : decode cX3_writeThunks 23 = .ok (.if_icmp .eq 8, 3) := by decide +kernel
theorem dX3_writeThunks_26 : decode cX3_writeThunks 26 = .ok (.aload_n 0, 1) := by decide +kernel
theorem dX3_writeThunks_27 : decode cX3_writeThunks 27 = .ok (.iload_n 1, 1) := by decide +kernel
theorem dX3_writeThunks_28 : decode cX3_writeThunks 28 = .ok (.invokevirtual 181, 3) := by decide +kernel
theorem dX3_writeThunks_31 : decode cX3_writeThunks 31 = .ok (.iinc 1 1, 3) := by decide +kernel
theorem dX3_writeThunks_34 : decode cX3_writeThunks 34 = .ok (.goto (-32), 3) := by decide +kernel
theorem dX3_writeThunks_37 : decode cX3_writeThunks 37 = .ok (.return_, 1) := by decide +kernel
theorem dX3_linkAll_0 : decode cX3_linkAll 0 = .ok (.aload_n 0, 1) := by decide +kernel
theorem dX3_linkAll_1 : decode cX3_linkAll 1 = .ok (.iconst 0, 1) := by decide +kernel
theorem dX3_linkAll_2 : decode cX3_linkAll 2 = .ok (.iconst (-1), 1) := by decide +kernel
theorem dX3_linkAll_3 : decode cX3_linkAll 3 = .ok (.iconst (-1), 1) := by decide +kernel
theorem dX3_linkAll_4 : decode cX3_linkAll 4 = .ok (.invokevirtual 37, 3) := by decide +kernel
theorem dX3_linkAll_7 : decode cX3_linkAll 7 = .ok (.pop, 1) := by decide +kernel
theorem dX3_linkAll_8 : decode cX3_linkAll 8 = .ok (.aload_n 0, 1) := by decide +kernel
theorem dX3_linkAll_9 : decode cX3_linkAll 9 = .ok (.getfield 33, 3) := by decide +kernel
theorem dX3_linkAll_12 : decode cX3_linkAll 12 = .ok (.invokevirtual 41, 3) := by decide +kernel
theorem dX3_linkAll_15 : decode cX3_linkAll 15 = .ok (.aload_n 0, 1) := by decide +kernel
theorem dX3_linkAll_16 : decode cX3_linkAll 16 = .ok (.getfield 25, 3) := by decide +kernel
theorem dX3_linkAll_19 : decode cX3_linkAll 19 = .ok (.aload_n 0, 1) := by decide +kernel
theorem dX3_linkAll_20 : decode cX3_linkAll 20 = .ok (.getfield 21, 3) := by decide +kernel
theorem dX3_linkAll_23 : decode cX3_linkAll 23 = .ok (.invokevirtual 46, 3) := by decide +kernel
theorem dX3_linkAll_26 : decode cX3_linkAll 26 = .ok (.aload_n 0, 1) := by decide +kernel
theorem dX3_linkAll_27 : decode cX3_linkAll 27 = .ok (.invokevirtual 52, 3) := by decide +kernel
theorem dX3_linkAll_30 : decode cX3_linkAll 30 = .ok (.ifCond .ne 10, 3) := by decide +kernel
theorem dX3_linkAll_33 : decode cX3_linkAll 33 = .ok (.aload_n 0, 1) := by decide +kernel
theorem dX3_linkAll_34 : decode cX3_linkAll 34 = .ok (.invokevirtual 56, 3) := by decide +kernel
theorem dX3_linkAll_37 : decode cX3_linkAll 37 = .ok (.ifCond .eq 5, 3) := by decide +kernel
theorem dX3_linkAll_40 : decode cX3_linkAll 40 = .ok (.iconst 0, 1) := by decide +kernel
theorem dX3_linkAll_41 : decode cX3_linkAll 41 = .ok (.ireturn, 1) := by decide +kernel
theorem dX3_linkAll_42 : decode cX3_linkAll 42 = .ok (.aload_n 0, 1) := by decide +kernel
theorem dX3_linkAll_43 : decode cX3_linkAll 43 = .ok (.getfield 29, 3) := by decide +kernel
theorem dX3_linkAll_46 : decode cX3_linkAll 46 = .ok (.aload_n 0, 1) := by decide +kernel
theorem dX3_linkAll_47 : decode cX3_linkAll 47 = .ok (.getfield 21, 3) := by decide +kernel
theorem dX3_linkAll_50 : decode cX3_linkAll 50 = .ok (.invokevirtual 59, 3) := by decide +kernel
theorem dX3_linkAll_53 : decode cX3_linkAll 53 = .ok (.aload_n 0, 1) := by decide +kernel
theorem dX3_linkAll_54 : decode cX3_linkAll 54 = .ok (.invokevirtual 64, 3) := by decide +kernel
theorem dX3_linkAll_57 : decode cX3_linkAll 57 = .ok (.ifCond .ne 10, 3) := by decide +kernel
theorem dX3_linkAll_60 : decode cX3_linkAll 60 = .ok (.aload_n 0, 1) := by decide +kernel
theorem dX3_linkAll_61 : decode cX3_linkAll 61 = .ok (.invokevirtual 67, 3) := by decide +kernel
theorem dX3_linkAll_64 : decode cX3_linkAll 64 = .ok (.ifCond .eq 5, 3) := by decide +kernel
theorem dX3_linkAll_67 : decode cX3_linkAll 67 = .ok (.iconst 0, 1) := by decide +kernel
theorem dX3_linkAll_68 : decode cX3_linkAll 68 = .ok (.ireturn, 1) := by decide +kernel
theorem dX3_linkAll_69 : decode cX3_linkAll 69 = .ok (.aload_n 0, 1) := by decide +kernel
theorem dX3_linkAll_70 : decode cX3_linkAll 70 = .ok (.getfield 29, 3) := by decide +kernel
theorem dX3_linkAll_73 : decode cX3_linkAll 73 = .ok (.aload_n 0, 1) := by decide +kernel
theorem dX3_linkAll_74 : decode cX3_linkAll 74 = .ok (.getfield 21, 3) := by decide +kernel
theorem dX3_linkAll_77 : decode cX3_linkAll 77 = .ok (.invokevirtual 70, 3) := by decide +kernel
theorem dX3_linkAll_80 : decode cX3_linkAll 80 = .ok (.aload_n 0, 1) := by decide +kernel
theorem dX3_linkAll_81 : decode cX3_linkAll 81 = .ok (.getfield 29, 3) := by decide +kernel
theorem dX3_linkAll_84 : decode cX3_linkAll 84 = .ok (.aload_n 0, 1) := by decide +kernel
theorem dX3_linkAll_85 : decode cX3_linkAll 85 = .ok (.getfield 21, 3) := by decide +kernel
theorem dX3_linkAll_88 : decode cX3_linkAll 88 = .ok (.aload_n 0, 1) := by decide +kernel
theorem dX3_linkAll_89 : decode cX3_linkAll 89 = .ok (.getfield 25, 3) := by decide +kernel
theorem dX3_linkAll_92 : decode cX3_linkAll 92 = .ok (.invokevirtual 73, 3) := by decide +kernel
theorem dX3_linkAll_95 : decode cX3_linkAll 95 = .ok (.aload_n 0, 1) := by decide +kernel
theorem dX3_linkAll_96 : decode cX3_linkAll 96 = .ok (.getfield 29, 3) := by decide +kernel
theorem dX3_linkAll_99 : decode cX3_linkAll 99 = .ok (.aload_n 0, 1) := by decide +kernel
theorem dX3_linkAll_100 : decode cX3_linkAll 100 = .ok (.getfield 21, 3) := by decide +kernel
theorem dX3_linkAll_103 : decode cX3_linkAll 103 = .ok (.invokevirtual 77, 3) := by decide +kernel
theorem dX3_linkAll_106 : decode cX3_linkAll 106 = .ok (.aload_n 0, 1) := by decide +kernel
theorem dX3_linkAll_107 : decode cX3_linkAll 107 = .ok (.getfield 29, 3) := by decide +kernel
theorem dX3_linkAll_110 : decode cX3_linkAll 110 = .ok (.aload_n 0, 1) := by decide +kernel
theorem dX3_linkAll_111 : decode cX3_linkAll 111 = .ok (.getfield 21, 3) := by decide +kernel
theorem dX3_linkAll_114 : decode cX3_linkAll 114 = .ok (.aload_n 0, 1) := by decide +kernel
theorem dX3_linkAll_115 : decode cX3_linkAll 115 = .ok (.getfield 25, 3) := by decide +kernel
theorem dX3_linkAll_118 : decode cX3_linkAll 118 = .ok (.invokevirtual 80, 3) := by decide +kernel
theorem dX3_linkAll_121 : decode cX3_linkAll 121 = .ok (.aload_n 0, 1) := by decide +kernel
theorem dX3_linkAll_122 : decode cX3_linkAll 122 = .ok (.invokevirtual 83, 3) := by decide +kernel
theorem dX3_linkAll_125 : decode cX3_linkAll 125 = .ok (.ifCond .ne 17, 3) := by decide +kernel
theorem dX3_linkAll_128 : decode cX3_linkAll 128 = .ok (.aload_n 0, 1) := by decide +kernel
theorem dX3_linkAll_129 : decode cX3_linkAll 129 = .ok (.invokevirtual 86, 3) := by decide +kernel
theorem dX3_linkAll_132 : decode cX3_linkAll 132 = .ok (.ifCond .ne 10, 3) := by decide +kernel
theorem dX3_linkAll_135 : decode cX3_linkAll 135 = .ok (.aload_n 0, 1) := by decide +kernel
theorem dX3_linkAll_136 : decode cX3_linkAll 136 = .ok (.invokevirtual 89, 3) := by decide +kernel
theorem dX3_linkAll_139 : decode cX3_linkAll 139 = .ok (.ifCond .eq 5, 3) := by decide +kernel
theorem dX3_linkAll_142 : decode cX3_linkAll 142 = .ok (.iconst 0, 1) := by decide +kernel
theorem dX3_linkAll_143 : decode cX3_linkAll 143 = .ok (.ireturn, 1) := by decide +kernel
theorem dX3_linkAll_144 : decode cX3_linkAll 144 = .ok (.aload_n 0, 1) := by decide +kernel
theorem dX3_linkAll_145 : decode cX3_linkAll 145 = .ok (.invokevirtual 92, 3) := by decide +kernel
theorem dX3_linkAll_148 : decode cX3_linkAll 148 = .ok (.aload_n 0, 1) := by decide +kernel
theorem dX3_linkAll_149 : decode cX3_linkAll 149 = .ok (.invokevirtual 95, 3) := by decide +kernel
theorem dX3_linkAll_152 : decode cX3_linkAll 152 = .ok (.iconst 1, 1) := by decide +kernel
theorem dX3_linkAll_153 : decode cX3_linkAll 153 = .ok (.ireturn, 1) := by decide +kernel
