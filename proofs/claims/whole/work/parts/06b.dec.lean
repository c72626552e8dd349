theorem dX0_calledBy_0 : decode cX0_calledBy 0 = .ok (.iconst 0, 1) := by decide +kernel
theorem dX0_calledBy_1 : decode cX0_calledBy 1 = .ok (.istore_n 2, 1) := by decide +kernel
theorem dX0_calledBy_2 : decode cX0_calledBy 2 = .ok (.iconst 0, 1) := by decide +kernel
theorem dX0_calledBy_3 : decode cX0_calledBy 3 = .ok (.istore_n 3, 1) := by decide +kernel
theorem dX0_calledBy_4 : decode cX0_calledBy 4 = .ok (.iload_n 3, 1) := by decide +kernel
theorem dX0_calledBy_5 : decode cX0_calledBy 5 = .ok (.aload_n 0, 1) := by decide +kernel
theorem dX0_calledBy_6 : decode cX0_calledBy 6 = .ok (.getfield 32, 3) := by decide +kernel
theorem dX0_calledBy_9 : decode cX0_calledBy 9 = .ok (.iload_n 1, 1) := by decide +kernel
theorem dX0_calledBy_10 : decode cX0_calledBy 10 = .ok (.iaload, 1) := by decide +kernel
theorem dX0_calledBy_11 : decode cX0_calledBy 11 = .ok (.if_icmp .ge 30, 3) := by decide +kernel
theorem dX0_calledBy_14 : decode cX0_calledBy 14 = .ok (.aload_n 0, 1) := by decide +kernel
theorem dX0_calledBy_15 : decode cX0_calledBy 15 = .ok (.iload_n 1, 1) := by decide +kernel
theorem dX0_calledBy_16 : decode cX0_calledBy 16 = .ok (.iload_n 3, 1) := by decide +kernel
theorem dX0_calledBy_17 : decode cX0_calledBy 17 = .ok (.invokevirtual 35, 3) := by decide +kernel
theorem dX0_calledBy_20 : decode cX0_calledBy 20 = .ok (.iconst 5, 1) := by decide +kernel
theorem dX0_calledBy_21 : decode cX0_calledBy 21 = .ok (.if_icmp .ne 14, 3) := by decide +kernel
theorem dX0_calledBy_24 : decode cX0_calledBy 24 = .ok (.iload_n 2, 1) := by decide +kernel
theorem dX0_calledBy_25 : decode cX0_calledBy 25 = .ok (.iconst 1, 1) := by decide +kernel
theorem dX0_calledBy_26 : decode cX0_calledBy 26 = .ok (.aload_n 0, 1) := by decide +kernel
theorem dX0_calledBy_27 : decode cX0_calledBy 27 = .ok (.iload_n 1, 1) := by decide +kernel
theorem dX0_calledBy_28 : decode cX0_calledBy 28 = .ok (.iload_n 3, 1) := by decide +kernel
theorem dX0_calledBy_29 : decode cX0_calledBy 29 = .ok (.invokevirtual 39, 3) := by decide +kernel
theorem dX0_calledBy_32 : decode cX0_calledBy 32 = .ok (.ishl, 1) := by decide +kernel
theorem dX0_calledBy_33 : decode cX0_calledBy 33 = .ok (.ior, 1) := by decide +kernel
theorem dX0_calledBy_34 : decode cX0_calledBy 34 = .ok (.istore_n 2, 1) := by decide +kernel
theorem dX0_calledBy_35 : decode cX0_calledBy 35 = .ok (.iinc 3 1, 3) := by decide +kernel
theorem dX0_calledBy_38 : decode cX0_calledBy 38 = .ok (.goto (-34), 3) := by decide +kernel
theorem dX0_calledBy_41 : decode cX0_calledBy 41 = .ok (.iload_n 2, 1) := by decide +kernel
theorem dX0_calledBy_42 : decode cX0_calledBy 42 = .ok (.ireturn, 1) := by decide +kernel
theorem dX0_leadTo_0 : decode cX0_leadTo 0 = .ok (.aload_n 0, 1) := by decide +kernel
theorem dX0_leadTo_1 : decode cX0_leadTo 1 = .ok (.getfield 15, 3) := by decide +kernel
theorem dX0_leadTo_4 : decode cX0_leadTo 4 = .ok (.iload_n 1, 1) := by decide +kernel
theorem dX0_leadTo_5 : decode cX0_leadTo 5 = .ok (.iaload, 1) := by decide +kernel
theorem dX0_leadTo_6 : decode cX0_leadTo 6 = .ok (.iload_n 2, 1) := by decide +kernel
theorem dX0_leadTo_7 : decode cX0_leadTo 7 = .ok (.iushr, 1) := by decide +kernel
theorem dX0_leadTo_8 : decode cX0_leadTo 8 = .ok (.iconst 1, 1) := by decide +kernel
theorem dX0_leadTo_9 : decode cX0_leadTo 9 = .ok (.iand, 1) := by decide +kernel
theorem dX0_leadTo_10 : decode cX0_leadTo 10 = .ok (.iconst 1, 1) := by decide +kernel
theorem dX0_leadTo_11 : decode cX0_leadTo 11 = .ok (.if_icmp .ne 7, 3) := by decide +kernel
theorem dX0_leadTo_14 : decode cX0_leadTo 14 = .ok (.iconst 1, 1) := by decide +kernel
theorem dX0_leadTo_15 : decode cX0_leadTo 15 = .ok (.goto 4, 3) := by decide +kernel
theorem dX0_leadTo_18 : decode cX0_leadTo 18 = .ok (.iconst 0, 1) := by decide +kernel
theorem dX0_leadTo_19 : decode cX0_leadTo 19 = .ok (.ireturn, 1) := by decide +kernel
theorem dX0_trace_0 : decode cX0_trace 0 = .ok (.iconst 0, 1) := by decide +kernel
theorem dX0_trace_1 : decode cX0_trace 1 = .ok (.istore_n 2, 1) := by decide +kernel
theorem dX0_trace_2 : decode cX0_trace 2 = .ok (.iload_n 2, 1) := by decide +kernel
theorem dX0_trace_3 : decode cX0_trace 3 = .ok (.aload_n 1, 1) := by decide +kernel
theorem dX0_trace_4 : decode cX0_trace 4 = .ok (.getfield 18, 3) := by decide +kernel
theorem dX0_trace_7 : decode cX0_trace 7 = .ok (.if_icmp .ge 32, 3) := by decide +kernel
theorem dX0_trace_10 : decode cX0_trace 10 = .ok (.aload_n 0, 1) := by decide +kernel
theorem dX0_trace_11 : decode cX0_trace 11 = .ok (.getfield 9, 3) := by decide +kernel
theorem dX0_trace_14 : decode cX0_trace 14 = .ok (.iload_n 2, 1) := by decide +kernel
theorem dX0_trace_15 : decode cX0_trace 15 = .ok (.aload_n 1, 1) := by decide +kernel
theorem dX0_trace_16 : decode cX0_trace 16 = .ok (.iload_n 2, 1) := by decide +kernel
theorem dX0_trace_17 : decode cX0_trace 17 = .ok (.invokestatic 24, 3) := by decide +kernel
theorem dX0_trace_20 : decode cX0_trace 20 = .ok (.iastore, 1) := by decide +kernel
theorem dX0_trace_21 : decode cX0_trace 21 = .ok (.aload_n 0, 1) := by decide +kernel
theorem dX0_trace_22 : decode cX0_trace 22 = .ok (.getfield 15, 3) := by decide +kernel
theorem dX0_trace_25 : decode cX0_trace 25 = .ok (.iload_n 2, 1) := by decide +kernel
theorem dX0_trace_26 : decode cX0_trace 26 = .ok (.aload_n 0, 1) := by decide +kernel
theorem dX0_trace_27 : decode cX0_trace 27 = .ok (.getfield 9, 3) := by decide +kernel
theorem dX0_trace_30 : decode cX0_trace 30 = .ok (.iload_n 2, 1) := by decide +kernel
theorem dX0_trace_31 : decode cX0_trace 31 = .ok (.iaload, 1) := by decide +kernel
theorem dX0_trace_32 : decode cX0_trace 32 = .ok (.iastore, 1) := by decide +kernel
theorem dX0_trace_33 : decode cX0_trace 33 = .ok (.iinc 2 1, 3) := by decide +kernel
theorem dX0_trace_36 : decode cX0_trace 36 = .ok (.goto (-34), 3) := by decide +kernel
theorem dX0_trace_39 : decode cX0_trace 39 = .ok (.iconst 0, 1) := by decide +kernel
theorem dX0_trace_40 : decode cX0_trace 40 = .ok (.istore_n 2, 1) := by decide +kernel
theorem dX0_trace_41 : decode cX0_trace 41 = .ok (.iload_n 2, 1) := by decide +kernel
theorem dX0_trace_42 : decode cX0_trace 42 = .ok (.aload_n 1, 1) := by decide +kernel
theorem dX0_trace_43 : decode cX0_trace 43 = .ok (.getfield 18, 3) := by decide +kernel
theorem dX0_trace_46 : decode cX0_trace 46 = .ok (.if_icmp .ge 49, 3) := by decide +kernel
theorem dX0_trace_49 : decode cX0_trace 49 = .ok (.iconst 0, 1) := by decide +kernel
theorem dX0_trace_50 : decode cX0_trace 50 = .ok (.istore_n 3, 1) := by decide +kernel
theorem dX0_trace_51 : decode cX0_trace 51 = .ok (.iload_n 3, 1) := by decide +kernel
theorem dX0_trace_52 : decode cX0_trace 52 = .ok (.aload_n 1, 1) := by decide +kernel
theorem dX0_trace_53 : decode cX0_trace 53 = .ok (.getfield 18, 3) := by decide +kernel
theorem dX0_trace_56 : decode cX0_trace 56 = .ok (.if_icmp .ge 33, 3) := by decide +kernel
theorem dX0_trace_59 : decode cX0_trace 59 = .ok (.aload_n 0, 1) := by decide +kernel
theorem dX0_trace_60 : decode cX0_trace 60 = .ok (.iload_n 3, 1) := by decide +kernel
theorem dX0_trace_61 : decode cX0_trace 61 = .ok (.iload_n 2, 1) := by decide +kernel
theorem dX0_trace_62 : decode cX0_trace 62 = .ok (.invokevirtual 28, 3) := by decide +kernel
theorem dX0_trace_65 : decode cX0_trace 65 = .ok (.ifCond .eq 18, 3) := by decide +kernel
theorem dX0_trace_68 : decode cX0_trace 68 = .ok (.aload_n 0, 1) := by decide +kernel
theorem dX0_trace_69 : decode cX0_trace 69 = .ok (.getfield 15, 3) := by decide +kernel
theorem dX0_trace_72 : decode cX0_trace 72 = .ok (.iload_n 3, 1) := by decide +kernel
theorem dX0_trace_73 : decode cX0_trace 73 = .ok (.dup2, 1) := by decide +kernel
theorem dX0_trace_74 : decode cX0_trace 74 = .ok (.iaload, 1) := by decide +kernel
theorem dX0_trace_75 : decode cX0_trace 75 = .ok (.aload_n 0, 1) := by decide +kernel
theorem dX0_trace_76 : decode cX0_trace 76 = .ok (.getfield 15, 3) := by decide +kernel
theorem dX0_trace_79 : decode cX0_trace 79 = .ok (.iload_n 2, 1) := by decide +kernel
theorem dX0_trace_80 : decode cX0_trace 80 = .ok (.iaload, 1) := by decide +kernel
theorem dX0_trace_81 : decode cX0_trace 81 = .ok (.ior, 1) := by decide +kernel
theorem dX0_trace_82 : decode cX0_trace 82 = .ok (.iastore, 1) := by decide +kernel
theorem dX0_trace_83 : decode cX0_trace 83 = .ok (.iinc 3 1, 3) := by decide +kernel
theorem dX0_trace_86 : decode cX0_trace 86 = .ok (.goto (-35), 3) := by decide +kernel
theorem dX0_trace_89 : decode cX0_trace 89 = .ok (.iinc 2 1, 3) := by decide +kernel
theorem dX0_trace_92 : decode cX0_trace 92 = .ok (.goto (-51), 3) := by decide +kernel
theorem dX0_trace_95 : decode cX0_trace 95 = .ok (.return_, 1) := by decide +kernel
theorem dX0_hasCall_0 : decode cX0_hasCall 0 = .ok (.aload_n 0, 1) := by decide +kernel
theorem dX0_hasCall_1 : decode cX0_hasCall 1 = .ok (.getfield 9, 3) := by decide +kernel
theorem dX0_hasCall_4 : decode cX0_hasCall 4 = .ok (.iload_n 1, 1) := by decide +kernel
theorem dX0_hasCall_5 : decode cX0_hasCall 5 = .ok (.iaload, 1) := by decide +kernel
theorem dX0_hasCall_6 : decode cX0_hasCall 6 = .ok (.iload_n 2, 1) := by decide +kernel
theorem dX0_hasCall_7 : decode cX0_hasCall 7 = .ok (.iushr, 1) := by decide +kernel
theorem dX0_hasCall_8 : decode cX0_hasCall 8 = .ok (.iconst 1, 1) := by decide +kernel
theorem dX0_hasCall_9 : decode cX0_hasCall 9 = .ok (.iand, 1) := by decide +kernel
theorem dX0_hasCall_10 : decode cX0_hasCall 10 = .ok (.iconst 1, 1) := by decide +kernel
theorem dX0_hasCall_11 : decode cX0_hasCall 11 = .ok (.if_icmp .ne 7, 3) := by decide +kernel
theorem dX0_hasCall_14 : decode cX0_hasCall 14 = .ok (.iconst 1, 1) := by decide +kernel
theorem dX0_hasCall_15 : decode cX0_hasCall 15 = .ok (.goto 4, 3) := by decide +kernel
theorem dX0_hasCall_18 : decode cX0_hasCall 18 = .ok (.iconst 0, 1) := by decide +kernel
theorem dX0_hasCall_19 : decode cX0_hasCall 19 = .ok (.ireturn, 1) := by decide +kernel
theorem dX2_measure_0 : decode cX2_measure 0 = .ok (.aload_n 0, 1) := by decide +kernel
theorem dX2_measure_1 : decode cX2_measure 1 = .ok (.getfield 30, 3) := by decide +kernel
theorem dX2_measure_4 : decode cX2_measure 4 = .ok (.iconst 0, 1) := by decide +kernel
theorem dX2_measure_5 : decode cX2_measure 5 = .ok (.invokestatic 55, 3) := by decide +kernel
theorem dX2_measure_8 : decode cX2_measure 8 = .ok (.iconst 0, 1) := by decide +kernel
theorem dX2_measure_9 : decode cX2_measure 9 = .ok (.istore_n 2, 1) := by decide +kernel
theorem dX2_measure_10 : decode cX2_measure 10 = .ok (.iload_n 2, 1) := by decide +kernel
theorem dX2_measure_11 : decode cX2_measure 11 = .ok (.aload_n 1, 1) := by decide +kernel
theorem dX2_measure_12 : decode cX2_measure 12 = .ok (.getfield 61, 3) := by decide +kernel
theorem dX2_measure_15 : decode cX2_measure 15 = .ok (.if_icmp .ge 40, 3) := by decide +kernel
theorem dX2_measure_18 : decode cX2_measure 18 = .ok (.aload_n 0, 1) := by decide +kernel
theorem dX2_measure_19 : decode cX2_measure 19 = .ok (.getfield 9, 3) := by decide +kernel
theorem dX2_measure_22 : decode cX2_measure 22 = .ok (.iload_n 2, 1) := by decide +kernel
theorem dX2_measure_23 : decode cX2_measure 23 = .ok (.aload_n 1, 1) := by decide +kernel
theorem dX2_measure_24 : decode cX2_measure 24 = .ok (.iload_n 2, 1) := by decide +kernel
theorem dX2_measure_25 : decode cX2_measure 25 = .ok (.invokevirtual 66, 3) := by decide +kernel
theorem dX2_measure_28 : decode cX2_measure 28 = .ok (.iastore, 1) := by decide +kernel
theorem dX2_measure_29 : decode cX2_measure 29 = .ok (.aload_n 0, 1) := by decide +kernel
theorem dX2_measure_30 : decode cX2_measure 30 = .ok (.getfield 30, 3) := by decide +kernel
theorem dX2_measure_33 : decode cX2_measure 33 = .ok (.aload_n 1, 1) := by decide +kernel
theorem dX2_measure_34 : decode cX2_measure 34 = .ok (.getfield 70, 3) := by decide +kernel
theorem dX2_measure_37 : decode cX2_measure 37 = .ok (.iload_n 2, 1) := by decide +kernel
theorem dX2_measure_38 : decode cX2_measure 38 = .ok (.iaload, 1) := by decide +kernel
theorem dX2_measure_39 : decode cX2_measure 39 = .ok (.dup2, 1) := by decide +kernel
theorem dX2_measure_40 : decode cX2_measure 40 = .ok (.iaload, 1) := by decide +kernel
theorem dX2_measure_41 : decode cX2_measure 41 = .ok (.aload_n 0, 1) := by decide +kernel
theorem dX2_measure_42 : decode cX2_measure 42 = .ok (.getfield 9, 3) := by decide +kernel
theorem dX2_measure_45 : decode cX2_measure 45 = .ok (.iload_n 2, 1) := by decide +kernel
theorem dX2_measure_46 : decode cX2_measure 46 = .ok (.iaload, 1) := by decide +kernel
theorem dX2_measure_47 : decode cX2_measure 47 = .ok (.iadd, 1) := by decide +kernel
theorem dX2_measure_48 : decode cX2_measure 48 = .ok (.iastore, 1) := by decide +kernel
theorem dX2_measure_49 : decode cX2_measure 49 = .ok (.iinc 2 1, 3) := by decide +kernel
theorem dX2_measure_52 : decode cX2_measure 52 = .ok (.goto (-42), 3) := by decide +kernel
theorem dX2_measure_55 : decode cX2_measure 55 = .ok (.return_, 1) := by decide +kernel
theorem dX2_bankWithRoom_0 : decode cX2_bankWithRoom 0 = .ok (.iconst 0, 1) := by decide +kernel
theorem dX2_bankWithRoom_1 : decode cX2_bankWithRoom 1 = .ok (.istore_n 3, 1) := by decide +kernel
theorem dX2_bankWithRoom_2 : decode cX2_bankWithRoom 2 = .ok (.iload_n 3, 1) := by decide +kernel
theorem dX2_bankWithRoom_3 : decode cX2_bankWithRoom 3 = .ok (.aload_n 1, 1) := by decide +kernel
theorem dX2_bankWithRoom_4 : decode cX2_bankWithRoom 4 = .ok (.getfield 83, 3) := by decide +kernel
theorem dX2_bankWithRoom_7 : decode cX2_bankWithRoom 7 = .ok (.iconst 0, 1) := by decide +kernel
theorem dX2_bankWithRoom_8 : decode cX2_bankWithRoom 8 = .ok (.iaload, 1) := by decide +kernel
theorem dX2_bankWithRoom_9 : decode cX2_bankWithRoom 9 = .ok (.if_icmp .ge 28, 3) := by decide +kernel
theorem dX2_bankWithRoom_12 : decode cX2_bankWithRoom 12 = .ok (.aload_n 0, 1) := by decide +kernel
theorem dX2_bankWithRoom_13 : decode cX2_bankWithRoom 13 = .ok (.getfield 39, 3) := by decide +kernel
theorem dX2_bankWithRoom_16 : decode cX2_bankWithRoom 16 = .ok (.iload_n 3, 1) := by decide +kernel
theorem dX2_bankWithRoom_17 : decode cX2_bankWithRoom 17 = .ok (.iaload, 1) := by decide +kernel
theorem dX2_bankWithRoom_18 : decode cX2_bankWithRoom 18 = .ok (.iload_n 2, 1) := by decide +kernel
theorem dX2_bankWithRoom_19 : decode cX2_bankWithRoom 19 = .ok (.iadd, 1) := by decide +kernel
theorem dX2_bankWithRoom_20 : decode cX2_bankWithRoom 20 = .ok (.aload_n 1, 1) := by decide +kernel
theorem dX2_bankWithRoom_21 : decode cX2_bankWithRoom 21 = .ok (.getfield 83, 3) := by decide +kernel
theorem dX2_bankWithRoom_24 : decode cX2_bankWithRoom 24 = .ok (.iconst 1, 1) := by decide +kernel
theorem dX2_bankWithRoom_25 : decode cX2_bankWithRoom 25 = .ok (.iaload, 1) := by decide +kernel
theorem dX2_bankWithRoom_26 : decode cX2_bankWithRoom 26 = .ok (.if_icmp .gt 5, 3) := by decide +kernel
theorem dX2_bankWithRoom_29 : decode cX2_bankWithRoom 29 = .ok (.iload_n 3, 1) := by decide +kernel
theorem dX2_bankWithRoom_30 : decode cX2_bankWithRoom 30 = .ok (.ireturn, 1) := by decide +kernel
theorem dX2_bankWithRoom_31 : decode cX2_bankWithRoom 31 = .ok (.iinc 3 1, 3) := by decide +kernel
theorem dX2_bankWithRoom_34 : decode cX2_bankWithRoom 34 = .ok (.goto (-32), 3) := by decide +kernel
theorem dX2_bankWithRoom_37 : decode cX2_bankWithRoom 37 = .ok (.iconst (-1), 1) := by decide +kernel
theorem dX2_bankWithRoom_38 : decode cX2_bankWithRoom 38 = .ok (.ireturn, 1) := by decide +kernel
theorem dX2_placeModules_0 : decode cX2_placeModules 0 = .ok (.aload_n 0, 1) := by decide +kernel
theorem dX2_placeModules_1 : decode cX2_placeModules 1 = .ok (.getfield 39, 3) := by decide +kernel
theorem dX2_placeModules_4 : decode cX2_placeModules 4 = .ok (.iconst 0, 1) := by decide +kernel
theorem dX2_placeModules_5 : decode cX2_placeModules 5 = .ok (.invokestatic 55, 3) := by decide +kernel
theorem dX2_placeModules_8 : decode cX2_placeModules 8 = .ok (.aload_n 0, 1) := by decide +kernel
theorem dX2_placeModules_9 : decode cX2_placeModules 9 = .ok (.iconst 0, 1) := by decide +kernel
theorem dX2_placeModules_10 : decode cX2_placeModules 10 = .ok (.putfield 42, 3) := by decide +kernel
theorem dX2_placeModules_13 : decode cX2_placeModules 13 = .ok (.iconst 0, 1) := by decide +kernel
theorem dX2_placeModules_14 : decode cX2_placeModules 14 = .ok (.istore_n 2, 1) := by decide +kernel
theorem dX2_placeModules_15 : decode cX2_placeModules 15 = .ok (.iload_n 2, 1) := by decide +kernel
theorem dX2_placeModules_16 : decode cX2_placeModules 16 = .ok (.aload_n 1, 1) := by decide +kernel
theorem dX2_placeModules_17 : decode cX2_placeModules 17 = .ok (.getfield 73, 3) := by decide +kernel
theorem dX2_placeModules_20 : decode cX2_placeModules 20 = .ok (.if_icmp .ge 110, 3) := by decide +kernel
theorem dX2_placeModules_23 : decode cX2_placeModules 23 = .ok (.aload_n 1, 1) := by decide +kernel
theorem dX2_placeModules_24 : decode cX2_placeModules 24 = .ok (.getfield 76, 3) := by decide +kernel
theorem dX2_placeModules_27 : decode cX2_placeModules 27 = .ok (.iload_n 2, 1) := by decide +kernel
theorem dX2_placeModules_28 : decode cX2_placeModules 28 = .ok (.iaload, 1) := by decide +kernel
theorem dX2_placeModules_29 : decode cX2_placeModules 29 = .ok (.ifCond .ne 38, 3) := by decide +kernel
theorem dX2_placeModules_32 : decode cX2_placeModules 32 = .ok (.aload_n 0, 1) := by decide +kernel
theorem dX2_placeModules_33 : decode cX2_placeModules 33 = .ok (.getfield 33, 3) := by decide +kernel
theorem dX2_placeModules_36 : decode cX2_placeModules 36 = .ok (.iload_n 2, 1) := by decide +kernel
theorem dX2_placeModules_37 : decode cX2_placeModules 37 = .ok (.iconst (-1), 1) := by decide +kernel
theorem dX2_placeModules_38 : decode cX2_placeModules 38 = .ok (.iastore, 1) := by decide +kernel
theorem dX2_placeModules_39 : decode cX2_placeModules 39 = .ok (.aload_n 0, 1) := by decide +kernel
theorem dX2_placeModules_40 : decode cX2_placeModules 40 = .ok (.getfield 36, 3) := by decide +kernel
theorem dX2_placeModules_43 : decode cX2_placeModules 43 = .ok (.iload_n 2, 1) := by decide +kernel
theorem dX2_placeModules_44 : decode cX2_placeModules 44 = .ok (.aload_n 0, 1) := by decide +kernel
theorem dX2_placeModules_45 : decode cX2_placeModules 45 = .ok (.getfield 42, 3) := by decide +kernel
theorem dX2_placeModules_48 : decode cX2_placeModules 48 = .ok (.iastore, 1) := by decide +kernel
theorem dX2_placeModules_49 : decode cX2_placeModules 49 = .ok (.aload_n 0, 1) := by decide +kernel
theorem dX2_placeModules_50 : decode cX2_placeModules 50 = .ok (.dup, 1) := by decide +kernel
theorem dX2_placeModules_51 : decode cX2_placeModules 51 = .ok (.getfield 42, 3) := by decide +kernel
theorem dX2_placeModules_54 : decode cX2_placeModules 54 = .ok (.aload_n 0, 1) := by decide +kernel
theorem dX2_placeModules_55 : decode cX2_placeModules 55 = .ok (.getfield 30, 3) := by decide +kernel
theorem dX2_placeModules_58 : decode cX2_placeModules 58 = .ok (.iload_n 2, 1) := by decide +kernel
theorem dX2_placeModules_59 : decode cX2_placeModules 59 = .ok (.iaload, 1) := by decide +kernel
theorem dX2_placeModules_60 : decode cX2_placeModules 60 = .ok (.iadd, 1) := by decide +kernel
theorem dX2_placeModules_61 : decode cX2_placeModules 61 = .ok (.putfield 42, 3) := by decide +kernel
theorem dX2_placeModules_64 : decode cX2_placeModules 64 = .ok (.goto 60, 3) := by decide +kernel
theorem dX2_placeModules_67 : decode cX2_placeModules 67 = .ok (.aload_n 0, 1) := by decide +kernel
theorem dX2_placeModules_68 : decode cX2_placeModules 68 = .ok (.aload_n 1, 1) := by decide +kernel
theorem dX2_placeModules_69 : decode cX2_placeModules 69 = .ok (.aload_n 0, 1) := by decide +kernel
theorem dX2_placeModules_70 : decode cX2_placeModules 70 = .ok (.getfield 30, 3) := by decide +kernel
theorem dX2_placeModules_73 : decode cX2_placeModules 73 = .ok (.iload_n 2, 1) := by decide +kernel
theorem dX2_placeModules_74 : decode cX2_placeModules 74 = .ok (.iaload, 1) := by decide +kernel
theorem dX2_placeModules_75 : decode cX2_placeModules 75 = .ok (.invokevirtual 79, 3) := by decide +kernel
theorem dX2_placeModules_78 : decode cX2_placeModules 78 = .ok (.istore_n 3, 1) := by decide +kernel
theorem dX2_placeModules_79 : decode cX2_placeModules 79 = .ok (.iload_n 3, 1) := by decide +kernel
theorem dX2_placeModules_80 : decode cX2_placeModules 80 = .ok (.iconst (-1), 1) := by decide +kernel
theorem dX2_placeModules_81 : decode cX2_placeModules 81 = .ok (.if_icmp .ne 5, 3) := by decide +kernel
theorem dX2_placeModules_84 : decode cX2_placeModules 84 = .ok (.iload_n 2, 1) := by decide +kernel
theorem dX2_placeModules_85 : decode cX2_placeModules 85 = .ok (.ireturn, 1) := by decide +kernel
theorem dX2_placeModules_86 : decode cX2_placeModules 86 = .ok (.aload_n 0, 1) := by decide +kernel
theorem dX2_placeModules_87 : decode cX2_placeModules 87 = .ok (.getfield 33, 3) := by decide +kernel
theorem dX2_placeModules_90 : decode cX2_placeModules 90 = .ok (.iload_n 2, 1) := by decide +kernel
theorem dX2_placeModules_91 : decode cX2_placeModules 91 = .ok (.iload_n 3, 1) := by decide +kernel
theorem dX2_placeModules_92 : decode cX2_placeModules 92 = .ok (.iastore, 1) := by decide +kernel
theorem dX2_placeModules_93 : decode cX2_placeModules 93 = .ok (.aload_n 0, 1) := by decide +kernel
theorem dX2_placeModules_94 : decode cX2_placeModules 94 = .ok (.getfield 36, 3) := by decide +kernel
theorem dX2_placeModules_97 : decode cX2_placeModules 97 = .ok (.iload_n 2, 1) := by decide +kernel
theorem dX2_placeModules_98 : decode cX2_placeModules 98 = .ok (.sipush 256, 3) := by decide +kernel
theorem dX2_placeModules_101 : decode cX2_placeModules 101 = .ok (.aload_n 0, 1) := by decide +kernel
theorem dX2_placeModules_102 : decode cX2_placeModules 102 = .ok (.getfield 39, 3) := by decide +kernel
theorem dX2_placeModules_105 : decode cX2_placeModules 105 = .ok (.iload_n 3, 1) := by decide +kernel
theorem dX2_placeModules_106 : decode cX2_placeModules 106 = .ok (.iaload, 1) := by decide +kernel
theorem dX2_placeModules_107 : decode cX2_placeModules 107 = .ok (.iadd, 1) := by decide +kernel
theorem dX2_placeModules_108 : decode cX2_placeModules 108 = .ok (.iastore, 1) := by decide +kernel
theorem dX2_placeModules_109 : decode cX2_placeModules 109 = .ok (.aload_n 0, 1) := by decide +kernel
theorem dX2_placeModules_110 : decode cX2_placeModules 110 = .ok (.getfield 39, 3) := by decide +kernel
theorem dX2_placeModules_113 : decode cX2_placeModules 113 = .ok (.iload_n 3, 1) := by decide +kernel
theorem dX2_placeModules_114 : decode cX2_placeModules 114 = .ok (.dup2, 1) := by decide +kernel
theorem dX2_placeModules_115 : decode cX2_placeModules 115 = .ok (.iaload, 1) := by decide +kernel
theorem dX2_placeModules_116 : decode cX2_placeModules 116 = .ok (.aload_n 0, 1) := by decide +kernel
theorem dX2_placeModules_117 : decode cX2_placeModules 117 = .ok (.getfield 30, 3) := by decide +kernel
theorem dX2_placeModules_120 : decode cX2_placeModules 120 = .ok (.iload_n 2, 1) := by decide +kernel
theorem dX2_placeModules_121 : decode cX2_placeModules 121 = .ok (.iaload, 1) := by decide +kernel
theorem dX2_placeModules_122 : decode cX2_placeModules 122 = .ok (.iadd, 1) := by decide +kernel
theorem dX2_placeModules_123 : decode cX2_placeModules 123 = .ok (.iastore, 1) := by decide +kernel
theorem dX2_placeModules_124 : decode cX2_placeModules 124 = .ok (.iinc 2 1, 3) := by decide +kernel
theorem dX2_placeModules_127 : decode cX2_placeModules 127 = .ok (.goto (-112), 3) := by decide +kernel
theorem dX2_placeModules_130 : decode cX2_placeModules 130 = .ok (.iconst (-1), 1) := by decide +kernel
theorem dX2_placeModules_131 : decode cX2_placeModules 131 = .ok (.ireturn, 1) := by decide +kernel
theorem dX2_placeRoutines_0 : decode cX2_placeRoutines 0 = .ok (.iconst 0, 1) := by decide +kernel
theorem dX2_placeRoutines_1 : decode cX2_placeRoutines 1 = .ok (.istore_n 2, 1) := by decide +kernel
theorem dX2_placeRoutines_2 : decode cX2_placeRoutines 2 = .ok (.iload_n 2, 1) := by decide +kernel
theorem dX2_placeRoutines_3 : decode cX2_placeRoutines 3 = .ok (.aload_n 1, 1) := by decide +kernel
theorem dX2_placeRoutines_4 : decode cX2_placeRoutines 4 = .ok (.getfield 61, 3) := by decide +kernel
theorem dX2_placeRoutines_7 : decode cX2_placeRoutines 7 = .ok (.if_icmp .ge 55, 3) := by decide +kernel
theorem dX2_placeRoutines_10 : decode cX2_placeRoutines 10 = .ok (.aload_n 1, 1) := by decide +kernel
theorem dX2_placeRoutines_11 : decode cX2_placeRoutines 11 = .ok (.getfield 70, 3) := by decide +kernel
theorem dX2_placeRoutines_14 : decode cX2_placeRoutines 14 = .ok (.iload_n 2, 1) := by decide +kernel
theorem dX2_placeRoutines_15 : decode cX2_placeRoutines 15 = .ok (.iaload, 1) := by decide +kernel
theorem dX2_placeRoutines_16 : decode cX2_placeRoutines 16 = .ok (.istore_n 3, 1) := by decide +kernel
theorem dX2_placeRoutines_17 : decode cX2_placeRoutines 17 = .ok (.aload_n 0, 1) := by decide +kernel
theorem dX2_placeRoutines_18 : decode cX2_placeRoutines 18 = .ok (.getfield 15, 3) := by decide +kernel
theorem dX2_placeRoutines_21 : decode cX2_placeRoutines 21 = .ok (.iload_n 2, 1) := by decide +kernel
theorem dX2_placeRoutines_22 : decode cX2_placeRoutines 22 = .ok (.aload_n 0, 1) := by decide +kernel
theorem dX2_placeRoutines_23 : decode cX2_placeRoutines 23 = .ok (.getfield 33, 3) := by decide +kernel
theorem dX2_placeRoutines_26 : decode cX2_placeRoutines 26 = .ok (.iload_n 3, 1) := by decide +kernel
theorem dX2_placeRoutines_27 : decode cX2_placeRoutines 27 = .ok (.iaload, 1) := by decide +kernel
theorem dX2_placeRoutines_28 : decode cX2_placeRoutines 28 = .ok (.iastore, 1) := by decide +kernel
theorem dX2_placeRoutines_29 : decode cX2_placeRoutines 29 = .ok (.aload_n 0, 1) := by decide +kernel
theorem dX2_placeRoutines_30 : decode cX2_placeRoutines 30 = .ok (.getfield 18, 3) := by decide +kernel
theorem dX2_placeRoutines_33 : decode cX2_placeRoutines 33 = .ok (.iload_n 2, 1) := by decide +kernel
theorem dX2_placeRoutines_34 : decode cX2_placeRoutines 34 = .ok (.aload_n 0, 1) := by decide +kernel
theorem dX2_placeRoutines_35 : decode cX2_placeRoutines 35 = .ok (.getfield 36, 3) := by decide +kernel
theorem dX2_placeRoutines_38 : decode cX2_placeRoutines 38 = .ok (.iload_n 3, 1) := by decide +kernel
theorem dX2_placeRoutines_39 : decode cX2_placeRoutines 39 = .ok (.iaload, 1) := by decide +kernel
theorem dX2_placeRoutines_40 : decode cX2_placeRoutines 40 = .ok (.iastore, 1) := by decide +kernel
theorem dX2_placeRoutines_41 : decode cX2_placeRoutines 41 = .ok (.aload_n 0, 1) := by decide +kernel
theorem dX2_placeRoutines_42 : decode cX2_placeRoutines 42 = .ok (.getfield 36, 3) := by decide +kernel
theorem dX2_placeRoutines_45 : decode cX2_placeRoutines 45 = .ok (.iload_n 3, 1) := by decide +kernel
theorem dX2_placeRoutines_46 : decode cX2_placeRoutines 46 = .ok (.dup2, 1) := by decide +kernel
theorem dX2_placeRoutines_47 : decode cX2_placeRoutines 47 = .ok (.iaload, 1) := by decide +kernel
theorem dX2_placeRoutines_48 : decode cX2_placeRoutines 48 = .ok (.aload_n 0, 1) := by decide +kernel
theorem dX2_placeRoutines_49 : decode cX2_placeRoutines 49 = .ok (.getfield 9, 3) := by decide +kernel
theorem dX2_placeRoutines_52 : decode cX2_placeRoutines 52 = .ok (.iload_n 2, 1) := by decide +kernel
theorem dX2_placeRoutines_53 : decode cX2_placeRoutines 53 = .ok (.iaload, 1) := by decide +kernel
theorem dX2_placeRoutines_54 : decode cX2_placeRoutines 54 = .ok (.iadd, 1) := by decide +kernel
theorem dX2_placeRoutines_55 : decode cX2_placeRoutines 55 = .ok (.iastore, 1) := by decide +kernel
theorem dX2_placeRoutines_56 : decode cX2_placeRoutines 56 = .ok (.iinc 2 1, 3) := by decide +kernel
theorem dX2_placeRoutines_59 : decode cX2_placeRoutines 59 = .ok (.goto (-57), 3) := by decide +kernel
theorem dX2_placeRoutines_62 : decode cX2_placeRoutines 62 = .ok (.return_, 1) := by decide +kernel
theorem dX2_isFar_0 : decode cX2_isFar 0 = .ok (.aload_n 0, 1) := by decide +kernel
theorem dX2_isFar_1 : decode cX2_isFar 1 = .ok (.getfield 15, 3) := by decide +kernel
theorem dX2_isFar_4 : decode cX2_isFar 4 = .ok (.iload_n 2, 1) := by decide +kernel
theorem dX2_isFar_5 : decode cX2_isFar 5 = .ok (.iaload, 1) := by decide +kernel
theorem dX2_isFar_6 : decode cX2_isFar 6 = .ok (.iconst (-1), 1) := by decide +kernel
theorem dX2_isFar_7 : decode cX2_isFar 7 = .ok (.if_icmp .eq 22, 3) := by decide +kernel
theorem dX2_isFar_10 : decode cX2_isFar 10 = .ok (.aload_n 0, 1) := by decide +kernel
theorem dX2_isFar_11 : decode cX2_isFar 11 = .ok (.getfield 15, 3) := by decide +kernel
theorem dX2_isFar_14 : decode cX2_isFar 14 = .ok (.iload_n 1, 1) := by decide +kernel
theorem dX2_isFar_15 : decode cX2_isFar 15 = .ok (.iaload, 1) := by decide +kernel
theorem dX2_isFar_16 : decode cX2_isFar 16 = .ok (.aload_n 0, 1) := by decide +kernel
theorem dX2_isFar_17 : decode cX2_isFar 17 = .ok (.getfield 15, 3) := by decide +kernel
theorem dX2_isFar_20 : decode cX2_isFar 20 = .ok (.iload_n 2, 1) := by decide +kernel
theorem dX2_isFar_21 : decode cX2_isFar 21 = .ok (.iaload, 1) := by decide +kernel
theorem dX2_isFar_22 : decode cX2_isFar 22 = .ok (.if_icmp .eq 7, 3) := by decide +kernel
theorem dX2_isFar_25 : decode cX2_isFar 25 = .ok (.iconst 1, 1) := by decide +kernel
theorem dX2_isFar_26 : decode cX2_isFar 26 = .ok (.goto 4, 3) := by decide +kernel
theorem dX2_isFar_29 : decode cX2_isFar 29 = .ok (.iconst 0, 1) := by decide +kernel
theorem dX2_isFar_30 : decode cX2_isFar 30 = .ok (.ireturn, 1) := by decide +kernel
theorem dX2_hasFarCaller_0 : decode cX2_hasFarCaller 0 = .ok (.iconst 0, 1) := by decide +kernel
theorem dX2_hasFarCaller_1 : decode cX2_hasFarCaller 1 = .ok (.istore 4, 2) := by decide +kernel
theorem dX2_hasFarCaller_3 : decode cX2_hasFarCaller 3 = .ok (.iload 4, 2) := by decide +kernel
theorem dX2_hasFarCaller_5 : decode cX2_hasFarCaller 5 = .ok (.aload_n 1, 1) := by decide +kernel
theorem dX2_hasFarCaller_6 : decode cX2_hasFarCaller 6 = .ok (.getfield 61, 3) := by decide +kernel
theorem dX2_hasFarCaller_9 : decode cX2_hasFarCaller 9 = .ok (.if_icmp .ge 31, 3) := by decide +kernel
theorem dX2_hasFarCaller_12 : decode cX2_hasFarCaller 12 = .ok (.aload_n 2, 1) := by decide +kernel
theorem dX2_hasFarCaller_13 : decode cX2_hasFarCaller 13 = .ok (.iload 4, 2) := by decide +kernel
theorem dX2_hasFarCaller_15 : decode cX2_hasFarCaller 15 = .ok (.iload_n 3, 1) := by decide +kernel
theorem dX2_hasFarCaller_16 : decode cX2_hasFarCaller 16 = .ok (.invokevirtual 90, 3) := by decide +kernel
theorem dX2_hasFarCaller_19 : decode cX2_hasFarCaller 19 = .ok (.ifCond .eq 15, 3) := by decide +kernel
theorem dX2_hasFarCaller_22 : decode cX2_hasFarCaller 22 = .ok (.aload_n 0, 1) := by decide +kernel
theorem dX2_hasFarCaller_23 : decode cX2_hasFarCaller 23 = .ok (.iload 4, 2) := by decide +kernel
theorem dX2_hasFarCaller_25 : decode cX2_hasFarCaller 25 = .ok (.iload_n 3, 1) := by decide +kernel
theorem dX2_hasFarCaller_26 : decode cX2_hasFarCaller 26 = .ok (.invokevirtual 96, 3) := by decide +kernel
theorem dX2_hasFarCaller_29 : decode cX2_hasFarCaller 29 = .ok (.ifCond .eq 5, 3) := by decide +kernel
theorem dX2_hasFarCaller_32 : decode cX2_hasFarCaller 32 = .ok (.iconst 1, 1) := by decide +kernel
theorem dX2_hasFarCaller_33 : decode cX2_hasFarCaller 33 = .ok (.ireturn, 1) := by decide +kernel
theorem dX2_hasFarCaller_34 : decode cX2_hasFarCaller 34 = .ok (.iinc 4 1, 3) := by decide +kernel
theorem dX2_hasFarCaller_37 : decode cX2_hasFarCaller 37 = .ok (.goto (-34), 3) := by decide +kernel
theorem dX2_hasFarCaller_40 : decode cX2_hasFarCaller 40 = .ok (.iconst 0, 1) := by decide +kernel
theorem dX2_hasFarCaller_41 : decode cX2_hasFarCaller 41 = .ok (.ireturn, 1) := by decide +kernel
theorem dX2_placeThunks_0 : decode cX2_placeThunks 0 = .ok (.aload_n 0, 1) := by decide +kernel
theorem dX2_placeThunks_1 : decode cX2_placeThunks 1 = .ok (.iconst 0, 1) := by decide +kernel
theorem dX2_placeThunks_2 : decode cX2_placeThunks 2 = .ok (.putfield 46, 3) := by decide +kernel
theorem dX2_placeThunks_5 : decode cX2_placeThunks 5 = .ok (.iconst 0, 1) := by decide +kernel
theorem dX2_placeThunks_6 : decode cX2_placeThunks 6 = .ok (.istore_n 3, 1) := by decide +kernel
theorem dX2_placeThunks_7 : decode cX2_placeThunks 7 = .ok (.iload_n 3, 1) := by decide +kernel
theorem dX2_placeThunks_8 : decode cX2_placeThunks 8 = .ok (.aload_n 1, 1) := by decide +kernel
theorem dX2_placeThunks_9 : decode cX2_placeThunks 9 = .ok (.getfield 61, 3) := by decide +kernel
theorem dX2_placeThunks_12 : decode cX2_placeThunks 12 = .ok (.if_icmp .ge 57, 3) := by decide +kernel
theorem dX2_placeThunks_15 : decode cX2_placeThunks 15 = .ok (.aload_n 0, 1) := by decide +kernel
theorem dX2_placeThunks_16 : decode cX2_placeThunks 16 = .ok (.getfield 21, 3) := by decide +kernel
theorem dX2_placeThunks_19 : decode cX2_placeThunks 19 = .ok (.iload_n 3, 1) := by decide +kernel
theorem dX2_placeThunks_20 : decode cX2_placeThunks 20 = .ok (.iconst (-1), 1) := by decide +kernel
theorem dX2_placeThunks_21 : decode cX2_placeThunks 21 = .ok (.iastore, 1) := by decide +kernel
theorem dX2_placeThunks_22 : decode cX2_placeThunks 22 = .ok (.aload_n 0, 1) := by decide +kernel
theorem dX2_placeThunks_23 : decode cX2_placeThunks 23 = .ok (.aload_n 1, 1) := by decide +kernel
theorem dX2_placeThunks_24 : decode cX2_placeThunks 24 = .ok (.aload_n 2, 1) := by decide +kernel
theorem dX2_placeThunks_25 : decode cX2_placeThunks 25 = .ok (.iload_n 3, 1) := by decide +kernel
theorem dX2_placeThunks_26 : decode cX2_placeThunks 26 = .ok (.invokevirtual 86, 3) := by decide +kernel
theorem dX2_placeThunks_29 : decode cX2_placeThunks 29 = .ok (.ifCond .eq 34, 3) := by decide +kernel
theorem dX2_placeThunks_32 : decode cX2_placeThunks 32 = .ok (.aload_n 0, 1) := by decide +kernel
theorem dX2_placeThunks_33 : decode cX2_placeThunks 33 = .ok (.getfield 21, 3) := by decide +kernel
theorem dX2_placeThunks_36 : decode cX2_placeThunks 36 = .ok (.iload_n 3, 1) := by decide +kernel
theorem dX2_placeThunks_37 : decode cX2_placeThunks 37 = .ok (.aload_n 0, 1) := by decide +kernel
theorem dX2_placeThunks_38 : decode cX2_placeThunks 38 = .ok (.getfield 42, 3) := by decide +kernel
theorem dX2_placeThunks_41 : decode cX2_placeThunks 41 = .ok (.iastore, 1) := by decide +kernel
theorem dX2_placeThunks_42 : decode cX2_placeThunks 42 = .ok (.aload_n 0, 1) := by decide +kernel
theorem dX2_placeThunks_43 : decode cX2_placeThunks 43 = .ok (.dup, 1) := by decide +kernel
theorem dX2_placeThunks_44 : decode cX2_placeThunks 44 = .ok (.getfield 42, 3) := by decide +kernel
theorem dX2_placeThunks_47 : decode cX2_placeThunks 47 = .ok (.bipush 8, 2) := by decide +kernel
theorem dX2_placeThunks_49 : decode cX2_placeThunks 49 = .ok (.iadd, 1) := by decide +kernel
theorem dX2_placeThunks_50 : decode cX2_placeThunks 50 = .ok (.putfield 42, 3) := by decide +kernel
theorem dX2_placeThunks_53 : decode cX2_placeThunks 53 = .ok (.aload_n 0, 1) := by decide +kernel
theorem dX2_placeThunks_54 : decode cX2_placeThunks 54 = .ok (.dup, 1) := by decide +kernel
theorem dX2_placeThunks_55 : decode cX2_placeThunks 55 = .ok (.getfield 46, 3) := by decide +kernel
theorem dX2_placeThunks_58 : decode cX2_placeThunks 58 = .ok (.iconst 1, 1) := by decide +kernel
theorem dX2_placeThunks_59 : decode cX2_placeThunks 59 = .ok (.iadd, 1) := by decide +kernel
theorem dX2_placeThunks_60 : decode cX2_placeThunks 60 = .ok (.putfield 46, 3) := by decide +kernel
theorem dX2_placeThunks_63 : decode cX2_placeThunks 63 = .ok (.iinc 3 1, 3) := by decide +kernel
theorem dX2_placeThunks_66 : decode cX2_placeThunks 66 = .ok (.goto (-59), 3) := by decide +kernel
theorem dX2_placeThunks_69 : decode cX2_placeThunks 69 = .ok (.return_, 1) := by decide +kernel
theorem dX2_countFarCalls_0 : decode cX2_countFarCalls 0 = .ok (.aload_n 0, 1) := by decide +kernel
theorem dX2_countFarCalls_1 : decode cX2_countFarCalls 1 = .ok (.iconst 0, 1) := by decide +kernel
theorem dX2_countFarCalls_2 : decode cX2_countFarCalls 2 = .ok (.putfield 49, 3) := by decide +kernel
theorem dX2_countFarCalls_5 : decode cX2_countFarCalls 5 = .ok (.iconst 0, 1) := by decide +kernel
theorem dX2_countFarCalls_6 : decode cX2_countFarCalls 6 = .ok (.istore_n 2, 1) := by decide +kernel
theorem dX2_countFarCalls_7 : decode cX2_countFarCalls 7 = .ok (.iload_n 2, 1) := by decide +kernel
theorem dX2_countFarCalls_8 : decode cX2_countFarCalls 8 = .ok (.aload_n 1, 1) := by decide +kernel
theorem dX2_countFarCalls_9 : decode cX2_countFarCalls 9 = .ok (.getfield 61, 3) := by decide +kernel
theorem dX2_countFarCalls_12 : decode cX2_countFarCalls 12 = .ok (.if_icmp .ge 61, 3) := by decide +kernel
theorem dX2_countFarCalls_15 : decode cX2_countFarCalls 15 = .ok (.iconst 0, 1) := by decide +kernel
theorem dX2_countFarCalls_16 : decode cX2_countFarCalls 16 = .ok (.istore_n 3, 1) := by decide +kernel
theorem dX2_countFarCalls_17 : decode cX2_countFarCalls 17 = .ok (.iload_n 3, 1) := by decide +kernel
theorem dX2_countFarCalls_18 : decode cX2_countFarCalls 18 = .ok (.aload_n 1, 1) := by decide +kernel
theorem dX2_countFarCalls_19 : decode cX2_countFarCalls 19 = .ok (.getfield 99, 3) := by decide +kernel
theorem dX2_countFarCalls_22 : decode cX2_countFarCalls 22 = .ok (.iload_n 2, 1) := by decide +kernel
theorem dX2_countFarCalls_23 : decode cX2_countFarCalls 23 = .ok (.iaload, 1) := by decide +kernel
theorem dX2_countFarCalls_24 : decode cX2_countFarCalls 24 = .ok (.if_icmp .ge 43, 3) := by decide +kernel
theorem dX2_countFarCalls_27 : decode cX2_countFarCalls 27 = .ok (.aload_n 1, 1) := by decide +kernel
theorem dX2_countFarCalls_28 : decode cX2_countFarCalls 28 = .ok (.iload_n 2, 1) := by decide +kernel
theorem dX2_countFarCalls_29 : decode cX2_countFarCalls 29 = .ok (.iload_n 3, 1) := by decide +kernel
theorem dX2_countFarCalls_30 : decode cX2_countFarCalls 30 = .ok (.invokevirtual 102, 3) := by decide +kernel
theorem dX2_countFarCalls_33 : decode cX2_countFarCalls 33 = .ok (.iconst 5, 1) := by decide +kernel
theorem dX2_countFarCalls_34 : decode cX2_countFarCalls 34 = .ok (.if_icmp .ne 27, 3) := by decide +kernel
theorem dX2_countFarCalls_37 : decode cX2_countFarCalls 37 = .ok (.aload_n 0, 1) := by decide +kernel
theorem dX2_countFarCalls_38 : decode cX2_countFarCalls 38 = .ok (.iload_n 2, 1) := by decide +kernel
theorem dX2_countFarCalls_39 : decode cX2_countFarCalls 39 = .ok (.aload_n 1, 1) := by decide +kernel
theorem dX2_countFarCalls_40 : decode cX2_countFarCalls 40 = .ok (.iload_n 2, 1) := by decide +kernel
theorem dX2_countFarCalls_41 : decode cX2_countFarCalls 41 = .ok (.iload_n 3, 1) := by decide +kernel
theorem dX2_countFarCalls_42 : decode cX2_countFarCalls 42 = .ok (.invokevirtual 106, 3) := by decide +kernel
theorem dX2_countFarCalls_45 : decode cX2_countFarCalls 45 = .ok (.invokevirtual 96, 3) := by decide +kernel
theorem dX2_countFarCalls_48 : decode cX2_countFarCalls 48 = .ok (.ifCond .eq 13, 3) := by decide +kernel
theorem dX2_countFarCalls_51 : decode cX2_countFarCalls 51 = .ok (.aload_n 0, 1) := by decide +kernel
theorem dX2_countFarCalls_52 : decode cX2_countFarCalls 52 = .ok (.dup, 1) := by decide +kernel
theorem dX2_countFarCalls_53 : decode cX2_countFarCalls 53 = .ok (.getfield 49, 3) := by decide +kernel
theorem dX2_countFarCalls_56 : decode cX2_countFarCalls 56 = .ok (.iconst 1, 1) := by decide +kernel
theorem dX2_countFarCalls_57 : decode cX2_countFarCalls 57 = .ok (.iadd, 1) := by decide +kernel
theorem dX2_countFarCalls_58 : decode cX2_countFarCalls 58 = .ok (.putfield 49, 3) := by decide +kernel
theorem dX2_countFarCalls_61 : decode cX2_countFarCalls 61 = .ok (.iinc 3 1, 3) := by decide +kernel
theorem dX2_countFarCalls_64 : decode cX2_countFarCalls 64 = .ok (.goto (-47), 3) := by decide +kernel
theorem dX2_countFarCalls_67 : decode cX2_countFarCalls 67 = .ok (.iinc 2 1, 3) := by decide +kernel
theorem dX2_countFarCalls_70 : decode cX2_countFarCalls 70 = .ok (.goto (-63), 3) := by decide +kernel
theorem dX2_countFarCalls_73 : decode cX2_countFarCalls 73 = .ok (.return_, 1) := by decide +kernel
theorem dX2_raiseNeeds_0 : decode cX2_raiseNeeds 0 = .ok (.iconst 0, 1) := by decide +kernel
theorem dX2_raiseNeeds_1 : decode cX2_raiseNeeds 1 = .ok (.istore_n 3, 1) := by decide +kernel
theorem dX2_raiseNeeds_2 : decode cX2_raiseNeeds 2 = .ok (.iconst 0, 1) := by decide +kernel
theorem dX2_raiseNeeds_3 : decode cX2_raiseNeeds 3 = .ok (.istore 4, 2) := by decide +kernel
theorem dX2_raiseNeeds_5 : decode cX2_raiseNeeds 5 = .ok (.iload 4, 2) := by decide +kernel
theorem dX2_raiseNeeds_7 : decode cX2_raiseNeeds 7 = .ok (.aload_n 1, 1) := by decide +kernel
theorem dX2_raiseNeeds_8 : decode cX2_raiseNeeds 8 = .ok (.getfield 61, 3) := by decide +kernel
theorem dX2_raiseNeeds_11 : decode cX2_raiseNeeds 11 = .ok (.if_icmp .ge 148, 3) := by decide +kernel
theorem dX2_raiseNeeds_14 : decode cX2_raiseNeeds 14 = .ok (.iconst 0, 1) := by decide +kernel
theorem dX2_raiseNeeds_15 : decode cX2_raiseNeeds 15 = .ok (.istore 5, 2) := by decide +kernel
theorem dX2_raiseNeeds_17 : decode cX2_raiseNeeds 17 = .ok (.iload 5, 2) := by decide +kernel
theorem dX2_raiseNeeds_19 : decode cX2_raiseNeeds 19 = .ok (.aload_n 1, 1) := by decide +kernel
theorem dX2_raiseNeeds_20 : decode cX2_raiseNeeds 20 = .ok (.getfield 61, 3) := by decide +kernel
theorem dX2_raiseNeeds_23 : decode cX2_raiseNeeds 23 = .ok (.if_icmp .ge 130, 3) := by decide +kernel
theorem dX2_raiseNeeds_26 : decode cX2_raiseNeeds 26 = .ok (.aload_n 2, 1) := by decide +kernel
theorem dX2_raiseNeeds_27 : decode cX2_raiseNeeds 27 = .ok (.iload 4, 2) := by decide +kernel
theorem dX2_raiseNeeds_29 : decode cX2_raiseNeeds 29 = .ok (.iload 5, 2) := by decide +kernel
theorem dX2_raiseNeeds_31 : decode cX2_raiseNeeds 31 = .ok (.invokevirtual 90, 3) := by decide +kernel
theorem dX2_raiseNeeds_34 : decode cX2_raiseNeeds 34 = .ok (.ifCond .ne 6, 3) := by decide +kernel
theorem dX2_raiseNeeds_37 : decode cX2_raiseNeeds 37 = .ok (.goto 110, 3) := by decide +kernel
theorem dX2_raiseNeeds_40 : decode cX2_raiseNeeds 40 = .ok (.aload_n 0, 1) := by decide +kernel
theorem dX2_raiseNeeds_41 : decode cX2_raiseNeeds 41 = .ok (.getfield 24, 3) := by decide +kernel
theorem dX2_raiseNeeds_44 : decode cX2_raiseNeeds 44 = .ok (.iload 4, 2) := by decide +kernel
theorem dX2_raiseNeeds_46 : decode cX2_raiseNeeds 46 = .ok (.iaload, 1) := by decide +kernel
theorem dX2_raiseNeeds_47 : decode cX2_raiseNeeds 47 = .ok (.aload_n 1, 1) := by decide +kernel
theorem dX2_raiseNeeds_48 : decode cX2_raiseNeeds 48 = .ok (.getfield 113, 3) := by decide +kernel
theorem dX2_raiseNeeds_51 : decode cX2_raiseNeeds 51 = .ok (.iload 4, 2) := by decide +kernel
theorem dX2_raiseNeeds_53 : decode cX2_raiseNeeds 53 = .ok (.iaload, 1) := by decide +kernel
theorem dX2_raiseNeeds_54 : decode cX2_raiseNeeds 54 = .ok (.iadd, 1) := by decide +kernel
theorem dX2_raiseNeeds_55 : decode cX2_raiseNeeds 55 = .ok (.istore 6, 2) := by decide +kernel
theorem dX2_raiseNeeds_57 : decode cX2_raiseNeeds 57 = .ok (.aload_n 0, 1) := by decide +kernel
theorem dX2_raiseNeeds_58 : decode cX2_raiseNeeds 58 = .ok (.getfield 27, 3) := by decide +kernel
theorem dX2_raiseNeeds_61 : decode cX2_raiseNeeds 61 = .ok (.iload 5, 2) := by decide +kernel
theorem dX2_raiseNeeds_63 : decode cX2_raiseNeeds 63 = .ok (.iaload, 1) := by decide +kernel
theorem dX2_raiseNeeds_64 : decode cX2_raiseNeeds 64 = .ok (.aload_n 0, 1) := by decide +kernel
theorem dX2_raiseNeeds_65 : decode cX2_raiseNeeds 65 = .ok (.iload 4, 2) := by decide +kernel
theorem dX2_raiseNeeds_67 : decode cX2_raiseNeeds 67 = .ok (.iload 5, 2) := by decide +kernel
theorem dX2_raiseNeeds_69 : decode cX2_raiseNeeds 69 = .ok (.invokevirtual 96, 3) := by decide +kernel
theorem dX2_raiseNeeds_72 : decode cX2_raiseNeeds 72 = .ok (.ifCond .eq 7, 3) := by decide +kernel
theorem dX2_raiseNeeds_75 : decode cX2_raiseNeeds 75 = .ok (.iconst 3, 1) := by decide +kernel
theorem dX2_raiseNeeds_76 : decode cX2_raiseNeeds 76 = .ok (.goto 4, 3) := by decide +kernel
theorem dX2_raiseNeeds_79 : decode cX2_raiseNeeds 79 = .ok (.iconst 1, 1) := by decide +kernel
theorem dX2_raiseNeeds_80 : decode cX2_raiseNeeds 80 = .ok (.iadd, 1) := by decide +kernel
theorem dX2_raiseNeeds_81 : decode cX2_raiseNeeds 81 = .ok (.istore 7, 2) := by decide +kernel
theorem dX2_raiseNeeds_83 : decode cX2_raiseNeeds 83 = .ok (.aload_n 0, 1) := by decide +kernel
theorem dX2_raiseNeeds_84 : decode cX2_raiseNeeds 84 = .ok (.getfield 24, 3) := by decide +kernel
theorem dX2_raiseNeeds_87 : decode cX2_raiseNeeds 87 = .ok (.iload 5, 2) := by decide +kernel
theorem dX2_raiseNeeds_89 : decode cX2_raiseNeeds 89 = .ok (.iaload, 1) := by decide +kernel
theorem dX2_raiseNeeds_90 : decode cX2_raiseNeeds 90 = .ok (.iload 6, 2) := by decide +kernel
theorem dX2_raiseNeeds_92 : decode cX2_raiseNeeds 92 = .ok (.if_icmp .lt 15, 3) := by decide +kernel
theorem dX2_raiseNeeds_95 : decode cX2_raiseNeeds 95 = .ok (.aload_n 0, 1) := by decide +kernel
theorem dX2_raiseNeeds_96 : decode cX2_raiseNeeds 96 = .ok (.getfield 27, 3) := by decide +kernel
theorem dX2_raiseNeeds_99 : decode cX2_raiseNeeds 99 = .ok (.iload 4, 2) := by decide +kernel
theorem dX2_raiseNeeds_101 : decode cX2_raiseNeeds 101 = .ok (.iaload, 1) := by decide +kernel
theorem dX2_raiseNeeds_102 : decode cX2_raiseNeeds 102 = .ok (.iload 7, 2) := by decide +kernel
theorem dX2_raiseNeeds_104 : decode cX2_raiseNeeds 104 = .ok (.if_icmp .ge 5, 3) := by decide +kernel
theorem dX2_raiseNeeds_107 : decode cX2_raiseNeeds 107 = .ok (.iconst 1, 1) := by decide +kernel
theorem dX2_raiseNeeds_108 : decode cX2_raiseNeeds 108 = .ok (.istore_n 3, 1) := by decide +kernel
theorem dX2_raiseNeeds_109 : decode cX2_raiseNeeds 109 = .ok (.aload_n 0, 1) := by decide +kernel
theorem dX2_raiseNeeds_110 : decode cX2_raiseNeeds 110 = .ok (.getfield 24, 3) := by decide +kernel
theorem dX2_raiseNeeds_113 : decode cX2_raiseNeeds 113 = .ok (.iload 5, 2) := by decide +kernel
theorem dX2_raiseNeeds_115 : decode cX2_raiseNeeds 115 = .ok (.aload_n 0, 1) := by decide +kernel
theorem dX2_raiseNeeds_116 : decode cX2_raiseNeeds 116 = .ok (.getfield 24, 3) := by decide +kernel
theorem dX2_raiseNeeds_119 : decode cX2_raiseNeeds 119 = .ok (.iload 5, 2) := by decide +kernel
theorem dX2_raiseNeeds_121 : decode cX2_raiseNeeds 121 = .ok (.iaload, 1) := by decide +kernel
theorem dX2_raiseNeeds_122 : decode cX2_raiseNeeds 122 = .ok (.iload 6, 2) := by decide +kernel
theorem dX2_raiseNeeds_124 : decode cX2_raiseNeeds 124 = .ok (.invokestatic 116, 3) := by decide +kernel
theorem dX2_raiseNeeds_127 : decode cX2_raiseNeeds 127 = .ok (.iastore, 1) := by decide +kernel
theorem dX2_raiseNeeds_128 : decode cX2_raiseNeeds 128 = .ok (.aload_n 0, 1) := by decide +kernel
theorem dX2_raiseNeeds_129 : decode cX2_raiseNeeds 129 = .ok (.getfield 27, 3) := by decide +kernel
theorem dX2_raiseNeeds_132 : decode cX2_raiseNeeds 132 = .ok (.iload 4, 2) := by decide +kernel
theorem dX2_raiseNeeds_134 : decode cX2_raiseNeeds 134 = .ok (.aload_n 0, 1) := by decide +kernel
theorem dX2_raiseNeeds_135 : decode cX2_raiseNeeds 135 = .ok (.getfield 27, 3) := by decide +kernel
theorem dX2_raiseNeeds_138 : decode cX2_raiseNeeds 138 = .ok (.iload 4, 2) := by decide +kernel
theorem dX2_raiseNeeds_140 : decode cX2_raiseNeeds 140 = .ok (.iaload, 1) := by decide +kernel
theorem dX2_raiseNeeds_141 : decode cX2_raiseNeeds 141 = .ok (.iload 7, 2) := by decide +kernel
theorem dX2_raiseNeeds_143 : decode cX2_raiseNeeds 143 = .ok (.invokestatic 116, 3) := by decide +kernel
theorem dX2_raiseNeeds_146 : decode cX2_raiseNeeds 146 = .ok (.iastore, 1) := by decide +kernel
theorem dX2_raiseNeeds_147 : decode cX2_raiseNeeds 147 = .ok (.iinc 5 1, 3) := by decide +kernel
theorem dX2_raiseNeeds_150 : decode cX2_raiseNeeds 150 = .ok (.goto (-133), 3) := by decide +kernel
theorem dX2_raiseNeeds_153 : decode cX2_raiseNeeds 153 = .ok (.iinc 4 1, 3) := by decide +kernel
theorem dX2_raiseNeeds_156 : decode cX2_raiseNeeds 156 = .ok (.goto (-151), 3) := by decide +kernel
theorem dX2_raiseNeeds_159 : decode cX2_raiseNeeds 159 = .ok (.iload_n 3, 1) := by decide +kernel
theorem dX2_raiseNeeds_160 : decode cX2_raiseNeeds 160 = .ok (.ireturn, 1) := by decide +kernel
theorem dX2_settleNeeds_0 : decode cX2_settleNeeds 0 = .ok (.aload_n 0, 1) := by decide +kernel
theorem dX2_settleNeeds_1 : decode cX2_settleNeeds 1 = .ok (.getfield 24, 3) := by decide +kernel
theorem dX2_settleNeeds_4 : decode cX2_settleNeeds 4 = .ok (.iconst 0, 1) := by decide +kernel
theorem dX2_settleNeeds_5 : decode cX2_settleNeeds 5 = .ok (.invokestatic 55, 3) := by decide +kernel
theorem dX2_settleNeeds_8 : decode cX2_settleNeeds 8 = .ok (.aload_n 0, 1) := by decide +kernel
theorem dX2_settleNeeds_9 : decode cX2_settleNeeds 9 = .ok (.getfield 27, 3) := by decide +kernel
theorem dX2_settleNeeds_12 : decode cX2_settleNeeds 12 = .ok (.iconst 0, 1) := by decide +kernel
theorem dX2_settleNeeds_13 : decode cX2_settleNeeds 13 = .ok (.invokestatic 55, 3) := by decide +kernel
theorem dX2_settleNeeds_16 : decode cX2_settleNeeds 16 = .ok (.iconst 1, 1) := by decide +kernel
theorem dX2_settleNeeds_17 : decode cX2_settleNeeds 17 = .ok (.istore_n 3, 1) := by decide +kernel
theorem dX2_settleNeeds_18 : decode cX2_settleNeeds 18 = .ok (.iconst 0, 1) := by decide +kernel
theorem dX2_settleNeeds_19 : decode cX2_settleNeeds 19 = .ok (.istore 4, 2) := by decide +kernel
theorem dX2_settleNeeds_21 : decode cX2_settleNeeds 21 = .ok (.iload 4, 2) := by decide +kernel
theorem dX2_settleNeeds_23 : decode cX2_settleNeeds 23 = .ok (.aload_n 1, 1) := by decide +kernel
theorem dX2_settleNeeds_24 : decode cX2_settleNeeds 24 = .ok (.getfield 61, 3) := by decide +kernel
theorem dX2_settleNeeds_27 : decode cX2_settleNeeds 27 = .ok (.if_icmp .ge 20, 3) := by decide +kernel
theorem dX2_settleNeeds_30 : decode cX2_settleNeeds 30 = .ok (.iload_n 3, 1) := by decide +kernel
theorem dX2_settleNeeds_31 : decode cX2_settleNeeds 31 = .ok (.ifCond .eq 16, 3) := by decide +kernel
theorem dX2_settleNeeds_34 : decode cX2_settleNeeds 34 = .ok (.aload_n 0, 1) := by decide +kernel
theorem dX2_settleNeeds_35 : decode cX2_settleNeeds 35 = .ok (.aload_n 1, 1) := by decide +kernel
theorem dX2_settleNeeds_36 : decode cX2_settleNeeds 36 = .ok (.aload_n 2, 1) := by decide +kernel
theorem dX2_settleNeeds_37 : decode cX2_settleNeeds 37 = .ok (.invokevirtual 109, 3) := by decide +kernel
theorem dX2_settleNeeds_40 : decode cX2_settleNeeds 40 = .ok (.istore_n 3, 1) := by decide +kernel
theorem dX2_settleNeeds_41 : decode cX2_settleNeeds 41 = .ok (.iinc 4 1, 3) := by decide +kernel
theorem dX2_settleNeeds_44 : decode cX2_settleNeeds 44 = .ok (.goto (-23), 3) := by decide +kernel
theorem dX2_settleNeeds_47 : decode cX2_settleNeeds 47 = .ok (.aload_n 0, 1) := by decide +kernel
theorem dX2_settleNeeds_48 : decode cX2_settleNeeds 48 = .ok (.iconst 0, 1) := by decide +kernel
theorem dX2_settleNeeds_49 : decode cX2_settleNeeds 49 = .ok (.putfield 52, 3) := by decide +kernel
theorem dX2_settleNeeds_52 : decode cX2_settleNeeds 52 = .ok (.iconst 0, 1) := by decide +kernel
theorem dX2_settleNeeds_53 : decode cX2_settleNeeds 53 = .ok (.istore 4, 2) := by decide +kernel
theorem dX2_settleNeeds_55 : decode cX2_settleNeeds 55 = .ok (.iload 4, 2) := by decide +kernel
theorem dX2_settleNeeds_57 : decode cX2_settleNeeds 57 = .ok (.aload_n 1, 1) := by decide +kernel
theorem dX2_settleNeeds_58 : decode cX2_settleNeeds 58 = .ok (.getfield 61, 3) := by decide +kernel
theorem dX2_settleNeeds_61 : decode cX2_settleNeeds 61 = .ok (.if_icmp .ge 35, 3) := by decide +kernel
theorem dX2_settleNeeds_64 : decode cX2_settleNeeds 64 = .ok (.aload_n 0, 1) := by decide +kernel
theorem dX2_settleNeeds_65 : decode cX2_settleNeeds 65 = .ok (.aload_n 0, 1) := by decide +kernel
theorem dX2_settleNeeds_66 : decode cX2_settleNeeds 66 = .ok (.getfield 52, 3) := by decide +kernel
theorem dX2_settleNeeds_69 : decode cX2_settleNeeds 69 = .ok (.aload_n 0, 1) := by decide +kernel
theorem dX2_settleNeeds_70 : decode cX2_settleNeeds 70 = .ok (.getfield 24, 3) := by decide +kernel
theorem dX2_settleNeeds_73 : decode cX2_settleNeeds 73 = .ok (.iload 4, 2) := by decide +kernel
theorem dX2_settleNeeds_75 : decode cX2_settleNeeds 75 = .ok (.iaload, 1) := by decide +kernel
theorem dX2_settleNeeds_76 : decode cX2_settleNeeds 76 = .ok (.aload_n 1, 1) := by decide +kernel
theorem dX2_settleNeeds_77 : decode cX2_settleNeeds 77 = .ok (.getfield 113, 3) := by decide +kernel
theorem dX2_settleNeeds_80 : decode cX2_settleNeeds 80 = .ok (.iload 4, 2) := by decide +kernel
theorem dX2_settleNeeds_82 : decode cX2_settleNeeds 82 = .ok (.iaload, 1) := by decide +kernel
theorem dX2_settleNeeds_83 : decode cX2_settleNeeds 83 = .ok (.iadd, 1) := by decide +kernel
theorem dX2_settleNeeds_84 : decode cX2_settleNeeds 84 = .ok (.invokestatic 116, 3) := by decide +kernel
theorem dX2_settleNeeds_87 : decode cX2_settleNeeds 87 = .ok (.putfield 52, 3) := by decide +kernel
theorem dX2_settleNeeds_90 : decode cX2_settleNeeds 90 = .ok (.iinc 4 1, 3) := by decide +kernel
theorem dX2_settleNeeds_93 : decode cX2_settleNeeds 93 = .ok (.goto (-38), 3) := by decide +kernel
theorem dX2_settleNeeds_96 : decode cX2_settleNeeds 96 = .ok (.return_, 1) := by decide +kernel
theorem dX5_append_0 : decode cX5_append 0 = .ok (.iload_n 1, 1) := by decide +kernel
theorem dX5_append_1 : decode cX5_append 1 = .ok (.iconst 1, 1) := by decide +kernel
theorem dX5_append_2 : decode cX5_append 2 = .ok (.iadd, 1) := by decide +kernel
theorem dX5_append_3 : decode cX5_append 3 = .ok (.istore_n 3, 1) := by decide +kernel
theorem dX5_append_4 : decode cX5_append 4 = .ok (.iload_n 3, 1) := by decide +kernel
theorem dX5_append_5 : decode cX5_append 5 = .ok (.ifCond .lt 24, 3) := by decide +kernel
theorem dX5_append_8 : decode cX5_append 8 = .ok (.iload_n 3, 1) := by decide +kernel
theorem dX5_append_9 : decode cX5_append 9 = .ok (.aload_n 0, 1) := by decide +kernel
theorem dX5_append_10 : decode cX5_append 10 = .ok (.getfield 11, 3) := by decide +kernel
theorem dX5_append_13 : decode cX5_append 13 = .ok (.arraylength, 1) := by decide +kernel
theorem dX5_append_14 : decode cX5_append 14 = .ok (.if_icmp .ge 15, 3) := by decide +kernel
theorem dX5_append_17 : decode cX5_append 17 = .ok (.aload_n 0, 1) := by decide +kernel
theorem dX5_append_18 : decode cX5_append 18 = .ok (.getfield 16, 3) := by decide +kernel
theorem dX5_append_21 : decode cX5_append 21 = .ok (.iload_n 3, 1) := by decide +kernel
theorem dX5_append_22 : decode cX5_append 22 = .ok (.iaload, 1) := by decide +kernel
theorem dX5_append_23 : decode cX5_append 23 = .ok (.sipush 250, 3) := by decide +kernel
theorem dX5_append_26 : decode cX5_append 26 = .ok (.if_icmp .lt 4, 3) := by decide +kernel
theorem dX5_append_29 : decode cX5_append 29 = .ok (.return_, 1) := by decide +kernel
theorem dX5_append_30 : decode cX5_append 30 = .ok (.aload_n 0, 1) := by decide +kernel
theorem dX5_append_31 : decode cX5_append 31 = .ok (.getfield 11, 3) := by decide +kernel
theorem dX5_append_34 : decode cX5_append 34 = .ok (.iload_n 3, 1) := by decide +kernel
theorem dX5_append_35 : decode cX5_append 35 = .ok (.aaload, 1) := by decide +kernel
theorem dX5_append_36 : decode cX5_append 36 = .ok (.aload_n 0, 1) := by decide +kernel
theorem dX5_append_37 : decode cX5_append 37 = .ok (.getfield 16, 3) := by decide +kernel
theorem dX5_append_40 : decode cX5_append 40 = .ok (.iload_n 3, 1) := by decide +kernel
theorem dX5_append_41 : decode cX5_append 41 = .ok (.iaload, 1) := by decide +kernel
theorem dX5_append_42 : decode cX5_append 42 = .ok (.iload_n 2, 1) := by decide +kernel
theorem dX5_append_43 : decode cX5_append 43 = .ok (.sipush 255, 3) := by decide +kernel
theorem dX5_append_46 : decode cX5_append 46 = .ok (.iand, 1) := by decide +kernel
theorem dX5_append_47 : decode cX5_append 47 = .ok (.iastore, 1) := by decide +kernel
theorem dX5_append_48 : decode cX5_append 48 = .ok (.aload_n 0, 1) := by decide +kernel
theorem dX5_append_49 : decode cX5_append 49 = .ok (.getfield 16, 3) := by decide +kernel
theorem dX5_append_52 : decode cX5_append 52 = .ok (.iload_n 3, 1) := by decide +kernel
theorem dX5_append_53 : decode cX5_append 53 = .ok (.dup2, 1) := by decide +kernel
theorem dX5_append_54 : decode cX5_append 54 = .ok (.iaload, 1) := by decide +kernel
theorem dX5_append_55 : decode cX5_append 55 = .ok (.iconst 1, 1) := by decide +kernel
theorem dX5_append_56 : decode cX5_append 56 = .ok (.iadd, 1) := by decide +kernel
theorem dX5_append_57 : decode cX5_append 57 = .ok (.iastore, 1) := by decide +kernel
theorem dX5_append_58 : decode cX5_append 58 = .ok (.return_, 1) := by decide +kernel
theorem dX5_appendAddress_0 : decode cX5_appendAddress 0 = .ok (.aload_n 0, 1) := by decide +kernel
theorem dX5_appendAddress_1 : decode cX5_appendAddress 1 = .ok (.iload_n 1, 1) := by decide +kernel
theorem dX5_appendAddress_2 : decode cX5_appendAddress 2 = .ok (.iload_n 2, 1) := by decide +kernel
theorem dX5_appendAddress_3 : decode cX5_appendAddress 3 = .ok (.invokevirtual 26, 3) := by decide +kernel
theorem dX5_appendAddress_6 : decode cX5_appendAddress 6 = .ok (.aload_n 0, 1) := by decide +kernel
theorem dX5_appendAddress_7 : decode cX5_appendAddress 7 = .ok (.iload_n 1, 1) := by decide +kernel
theorem dX5_appendAddress_8 : decode cX5_appendAddress 8 = .ok (.iload_n 2, 1) := by decide +kernel
theorem dX5_appendAddress_9 : decode cX5_appendAddress 9 = .ok (.bipush 8, 2) := by decide +kernel
theorem dX5_appendAddress_11 : decode cX5_appendAddress 11 = .ok (.ishr, 1) := by decide +kernel
theorem dX5_appendAddress_12 : decode cX5_appendAddress 12 = .ok (.invokevirtual 26, 3) := by decide +kernel
theorem dX5_appendAddress_15 : decode cX5_appendAddress 15 = .ok (.return_, 1) := by decide +kernel
theorem dX5_empty_0 : decode cX5_empty 0 = .ok (.aload_n 0, 1) := by decide +kernel
theorem dX5_empty_1 : decode cX5_empty 1 = .ok (.getfield 16, 3) := by decide +kernel
theorem dX5_empty_4 : decode cX5_empty 4 = .ok (.iconst 0, 1) := by decide +kernel
theorem dX5_empty_5 : decode cX5_empty 5 = .ok (.invokestatic 20, 3) := by decide +kernel
theorem dX5_empty_8 : decode cX5_empty 8 = .ok (.return_, 1) := by decide +kernel
theorem dX5_byteAt_0 : decode cX5_byteAt 0 = .ok (.iload_n 1, 1) := by decide +kernel
theorem dX5_byteAt_1 : decode cX5_byteAt 1 = .ok (.iconst 1, 1) := by decide +kernel
theorem dX5_byteAt_2 : decode cX5_byteAt 2 = .ok (.iadd, 1) := by decide +kernel
theorem dX5_byteAt_3 : decode cX5_byteAt 3 = .ok (.istore_n 3, 1) := by decide +kernel
theorem dX5_byteAt_4 : decode cX5_byteAt 4 = .ok (.iload_n 3, 1) := by decide +kernel
theorem dX5_byteAt_5 : decode cX5_byteAt 5 = .ok (.ifCond .lt 26, 3) := by decide +kernel
theorem dX5_byteAt_8 : decode cX5_byteAt 8 = .ok (.iload_n 3, 1) := by decide +kernel
theorem dX5_byteAt_9 : decode cX5_byteAt 9 = .ok (.aload_n 0, 1) := by decide +kernel
theorem dX5_byteAt_10 : decode cX5_byteAt 10 = .ok (.getfield 11, 3) := by decide +kernel
theorem dX5_byteAt_13 : decode cX5_byteAt 13 = .ok (.arraylength, 1) := by decide +kernel
theorem dX5_byteAt_14 : decode cX5_byteAt 14 = .ok (.if_icmp .ge 17, 3) := by decide +kernel
theorem dX5_byteAt_17 : decode cX5_byteAt 17 = .ok (.iload_n 2, 1) := by decide +kernel
theorem dX5_byteAt_18 : decode cX5_byteAt 18 = .ok (.ifCond .lt 13, 3) := by decide +kernel
theorem dX5_byteAt_21 : decode cX5_byteAt 21 = .ok (.iload_n 2, 1) := by decide +kernel
theorem dX5_byteAt_22 : decode cX5_byteAt 22 = .ok (.aload_n 0, 1) := by decide +kernel
theorem dX5_byteAt_23 : decode cX5_byteAt 23 = .ok (.getfield 16, 3) := by decide +kernel
theorem dX5_byteAt_26 : decode cX5_byteAt 26 = .ok (.iload_n 3, 1) := by decide +kernel
theorem dX5_byteAt_27 : decode cX5_byteAt 27 = .ok (.iaload, 1) := by decide +kernel
theorem dX5_byteAt_28 : decode cX5_byteAt 28 = .ok (.if_icmp .lt 5, 3) := by decide +kernel
theorem dX5_byteAt_31 : decode cX5_byteAt 31 = .ok (.iconst (-1), 1) := by decide +kernel
theorem dX5_byteAt_32 : decode cX5_byteAt 32 = .ok (.ireturn, 1) := by decide +kernel
theorem dX5_byteAt_33 : decode cX5_byteAt 33 = .ok (.aload_n 0, 1) := by decide +kernel
theorem dX5_byteAt_34 : decode cX5_byteAt 34 = .ok (.getfield 11, 3) := by decide +kernel
theorem dX5_byteAt_37 : decode cX5_byteAt 37 = .ok (.iload_n 3, 1) := by decide +kernel
theorem dX5_byteAt_38 : decode cX5_byteAt 38 = .ok (.aaload, 1) := by decide +kernel
theorem dX5_byteAt_39 : decode cX5_byteAt 39 = .ok (.iload_n 2, 1) := by decide +kernel
theorem dX5_byteAt_40 : decode cX5_byteAt 40 = .ok (.iaload, 1) := by decide +kernel
theorem dX5_byteAt_41 : decode cX5_byteAt 41 = .ok (.ireturn, 1) := by decide +kernel
theorem dX5_seenAt_0 : decode cX5_seenAt 0 = .ok (.iload_n 2, 1) := by decide +kernel
theorem dX5_seenAt_1 : decode cX5_seenAt 1 = .ok (.sipush 256, 3) := by decide +kernel
theorem dX5_seenAt_4 : decode cX5_seenAt 4 = .ok (.if_icmp .ge 12, 3) := by decide +kernel
theorem dX5_seenAt_7 : decode cX5_seenAt 7 = .ok (.aload_n 0, 1) := by decide +kernel
theorem dX5_seenAt_8 : decode cX5_seenAt 8 = .ok (.iconst (-1), 1) := by decide +kernel
theorem dX5_seenAt_9 : decode cX5_seenAt 9 = .ok (.iload_n 2, 1) := by decide +kernel
theorem dX5_seenAt_10 : decode cX5_seenAt 10 = .ok (.invokevirtual 30, 3) := by decide +kernel
theorem dX5_seenAt_13 : decode cX5_seenAt 13 = .ok (.goto 13, 3) := by decide +kernel
theorem dX5_seenAt_16 : decode cX5_seenAt 16 = .ok (.aload_n 0, 1) := by decide +kernel
theorem dX5_seenAt_17 : decode cX5_seenAt 17 = .ok (.iload_n 1, 1) := by decide +kernel
theorem dX5_seenAt_18 : decode cX5_seenAt 18 = .ok (.iload_n 2, 1) := by decide +kernel
theorem dX5_seenAt_19 : decode cX5_seenAt 19 = .ok (.sipush 256, 3) := by decide +kernel
theorem dX5_seenAt_22 : decode cX5_seenAt 22 = .ok (.isub, 1) := by decide +kernel
theorem dX5_seenAt_23 : decode cX5_seenAt 23 = .ok (.invokevirtual 30, 3) := by decide +kernel
theorem dX5_seenAt_26 : decode cX5_seenAt 26 = .ok (.ireturn, 1) := by decide +kernel
theorem dX5_banksWithBytes_0 : decode cX5_banksWithBytes 0 = .ok (.iconst 0, 1) := by decide +kernel
theorem dX5_banksWithBytes_1 : decode cX5_banksWithBytes 1 = .ok (.istore_n 1, 1) := by decide +kernel
theorem dX5_banksWithBytes_2 : decode cX5_banksWithBytes 2 = .ok (.iconst 1, 1) := by decide +kernel
theorem dX5_banksWithBytes_3 : decode cX5_banksWithBytes 3 = .ok (.istore_n 2, 1) := by decide +kernel
theorem dX5_banksWithBytes_4 : decode cX5_banksWithBytes 4 = .ok (.iload_n 2, 1) := by decide +kernel
theorem dX5_banksWithBytes_5 : decode cX5_banksWithBytes 5 = .ok (.aload_n 0, 1) := by decide +kernel
theorem dX5_banksWithBytes_6 : decode cX5_banksWithBytes 6 = .ok (.getfield 16, 3) := by decide +kernel
theorem dX5_banksWithBytes_9 : decode cX5_banksWithBytes 9 = .ok (.arraylength, 1) := by decide +kernel
theorem dX5_banksWithBytes_10 : decode cX5_banksWithBytes 10 = .ok (.if_icmp .ge 21, 3) := by decide +kernel
theorem dX5_banksWithBytes_13 : decode cX5_banksWithBytes 13 = .ok (.aload_n 0, 1) := by decide +kernel
theorem dX5_banksWithBytes_14 : decode cX5_banksWithBytes 14 = .ok (.getfield 16, 3) := by decide +kernel
theorem dX5_banksWithBytes_17 : decode cX5_banksWithBytes 17 = .ok (.iload_n 2, 1) := by decide +kernel
theorem dX5_banksWithBytes_18 : decode cX5_banksWithBytes 18 = .ok (.iaload, 1) := by decide +kernel
theorem dX5_banksWithBytes_19 : decode cX5_banksWithBytes 19 = .ok (.ifCond .le 6, 3) := by decide +kernel
theorem dX5_banksWithBytes_22 : decode cX5_banksWithBytes 22 = .ok (.iinc 1 1, 3) := by decide +kernel
theorem dX5_banksWithBytes_25 : decode cX5_banksWithBytes 25 = .ok (.iinc 2 1, 3) := by decide +kernel
theorem dX5_banksWithBytes_28 : decode cX5_banksWithBytes 28 = .ok (.goto (-24), 3) := by decide +kernel
theorem dX5_banksWithBytes_31 : decode cX5_banksWithBytes 31 = .ok (.iload_n 1, 1) := by decide +kernel
theorem dX5_banksWithBytes_32 : decode cX5_banksWithBytes 32 = .ok (.ireturn, 1) := by decide +kernel
