theorem dX6_codeAt_0 : decode cX6_codeAt 0 = .ok (.iload_n 2, 1) := by decide +kernel
theorem dX6_codeAt_1 : decode cX6_codeAt 1 = .ok (.ifCond .lt 27, 3) := by decide +kernel
theorem dX6_codeAt_4 : decode cX6_codeAt 4 = .ok (.iload_n 2, 1) := by decide +kernel
theorem dX6_codeAt_5 : decode cX6_codeAt 5 = .ok (.aload_n 0, 1) := by decide +kernel
theorem dX6_codeAt_6 : decode cX6_codeAt 6 = .ok (.getfield 28, 3) := by decide +kernel
theorem dX6_codeAt_9 : decode cX6_codeAt 9 = .ok (.iload_n 1, 1) := by decide +kernel
theorem dX6_codeAt_10 : decode cX6_codeAt 10 = .ok (.iaload, 1) := by decide +kernel
theorem dX6_codeAt_11 : decode cX6_codeAt 11 = .ok (.if_icmp .ge 17, 3) := by decide +kernel
theorem dX6_codeAt_14 : decode cX6_codeAt 14 = .ok (.aload_n 0, 1) := by decide +kernel
theorem dX6_codeAt_15 : decode cX6_codeAt 15 = .ok (.getfield 31, 3) := by decide +kernel
theorem dX6_codeAt_18 : decode cX6_codeAt 18 = .ok (.iload_n 1, 1) := by decide +kernel
theorem dX6_codeAt_19 : decode cX6_codeAt 19 = .ok (.bipush 40, 2) := by decide +kernel
theorem dX6_codeAt_21 : decode cX6_codeAt 21 = .ok (.imul, 1) := by decide +kernel
theorem dX6_codeAt_22 : decode cX6_codeAt 22 = .ok (.iload_n 2, 1) := by decide +kernel
theorem dX6_codeAt_23 : decode cX6_codeAt 23 = .ok (.iadd, 1) := by decide +kernel
theorem dX6_codeAt_24 : decode cX6_codeAt 24 = .ok (.iaload, 1) := by decide +kernel
theorem dX6_codeAt_25 : decode cX6_codeAt 25 = .ok (.goto 5, 3) := by decide +kernel
theorem dX6_codeAt_28 : decode cX6_codeAt 28 = .ok (.bipush 8, 2) := by decide +kernel
theorem dX6_codeAt_30 : decode cX6_codeAt 30 = .ok (.ireturn, 1) := by decide +kernel
theorem dX6_valueAt_0 : decode cX6_valueAt 0 = .ok (.iload_n 2, 1) := by decide +kernel
theorem dX6_valueAt_1 : decode cX6_valueAt 1 = .ok (.ifCond .lt 27, 3) := by decide +kernel
theorem dX6_valueAt_4 : decode cX6_valueAt 4 = .ok (.iload_n 2, 1) := by decide +kernel
theorem dX6_valueAt_5 : decode cX6_valueAt 5 = .ok (.aload_n 0, 1) := by decide +kernel
theorem dX6_valueAt_6 : decode cX6_valueAt 6 = .ok (.getfield 28, 3) := by decide +kernel
theorem dX6_valueAt_9 : decode cX6_valueAt 9 = .ok (.iload_n 1, 1) := by decide +kernel
theorem dX6_valueAt_10 : decode cX6_valueAt 10 = .ok (.iaload, 1) := by decide +kernel
theorem dX6_valueAt_11 : decode cX6_valueAt 11 = .ok (.if_icmp .ge 17, 3) := by decide +kernel
theorem dX6_valueAt_14 : decode cX6_valueAt 14 = .ok (.aload_n 0, 1) := by decide +kernel
theorem dX6_valueAt_15 : decode cX6_valueAt 15 = .ok (.getfield 34, 3) := by decide +kernel
theorem dX6_valueAt_18 : decode cX6_valueAt 18 = .ok (.iload_n 1, 1) := by decide +kernel
theorem dX6_valueAt_19 : decode cX6_valueAt 19 = .ok (.bipush 40, 2) := by decide +kernel
theorem dX6_valueAt_21 : decode cX6_valueAt 21 = .ok (.imul, 1) := by decide +kernel
theorem dX6_valueAt_22 : decode cX6_valueAt 22 = .ok (.iload_n 2, 1) := by decide +kernel
theorem dX6_valueAt_23 : decode cX6_valueAt 23 = .ok (.iadd, 1) := by decide +kernel
theorem dX6_valueAt_24 : decode cX6_valueAt 24 = .ok (.iaload, 1) := by decide +kernel
theorem dX6_valueAt_25 : decode cX6_valueAt 25 = .ok (.goto 4, 3) := by decide +kernel
theorem dX6_valueAt_28 : decode cX6_valueAt 28 = .ok (.iconst 0, 1) := by decide +kernel
theorem dX6_valueAt_29 : decode cX6_valueAt 29 = .ok (.ireturn, 1) := by decide +kernel
theorem dJ7_rangeCheck_23922_0 : decode cJ7_rangeCheck_23922 0 = .ok (.iload_n 1, 1) := by decide +kernel
theorem dJ7_rangeCheck_23922_1 : decode cJ7_rangeCheck_23922 1 = .ok (.iload_n 2, 1) := by decide +kernel
theorem dJ7_rangeCheck_23922_2 : decode cJ7_rangeCheck_23922 2 = .ok (.if_icmp .le 44, 3) := by decide +kernel
theorem dJ7_rangeCheck_23922_5 : decode cJ7_rangeCheck_23922 5 = .ok (.new 43, 3) := by decide +kernel
theorem dJ7_rangeCheck_23922_8 : decode cJ7_rangeCheck_23922 8 = .ok (.dup, 1) := by decide +kernel
theorem dJ7_rangeCheck_23922_9 : decode cJ7_rangeCheck_23922 9 = .ok (.new 45, 3) := by decide +kernel
theorem dJ7_rangeCheck_23922_12 : decode cJ7_rangeCheck_23922 12 = .ok (.dup, 1) := by decide +kernel
theorem dJ7_rangeCheck_23922_13 : decode cJ7_rangeCheck_23922 13 = .ok (.invokespecial 47, 3) := by decide +kernel
theorem dJ7_rangeCheck_23922_16 : decode cJ7_rangeCheck_23922 16 = .ok (.ldc 48, 2) := by decide +kernel
theorem dJ7_rangeCheck_23922_18 : decode cJ7_rangeCheck_23922 18 = .ok (.invokevirtual 50, 3) := by decide +kernel
theorem dJ7_rangeCheck_23922_21 : decode cJ7_rangeCheck_23922 21 = .ok (.iload_n 1, 1) := by decide +kernel
theorem dJ7_rangeCheck_23922_22 : decode cJ7_rangeCheck_23922 22 = .ok (.invokevirtual 54, 3) := by decide +kernel
theorem dJ7_rangeCheck_23922_25 : decode cJ7_rangeCheck_23922 25 = .ok (.ldc 57, 2) := by decide +kernel
theorem dJ7_rangeCheck_23922_27 : decode cJ7_rangeCheck_23922 27 = .ok (.invokevirtual 50, 3) := by decide +kernel
theorem dJ7_rangeCheck_23922_30 : decode cJ7_rangeCheck_23922 30 = .ok (.iload_n 2, 1) := by decide +kernel
theorem dJ7_rangeCheck_23922_31 : decode cJ7_rangeCheck_23922 31 = .ok (.invokevirtual 54, 3) := by decide +kernel
theorem dJ7_rangeCheck_23922_34 : decode cJ7_rangeCheck_23922 34 = .ok (.ldc 59, 2) := by decide +kernel
theorem dJ7_rangeCheck_23922_36 : decode cJ7_rangeCheck_23922 36 = .ok (.invokevirtual 50, 3) := by decide +kernel
theorem dJ7_rangeCheck_23922_39 : decode cJ7_rangeCheck_23922 39 = .ok (.invokevirtual 61, 3) := by decide +kernel
theorem dJ7_rangeCheck_23922_42 : decode cJ7_rangeCheck_23922 42 = .ok (.invokespecial 65, 3) := by decide +kernel
theorem dJ7_rangeCheck_23922_45 : decode cJ7_rangeCheck_23922 45 = .ok (.athrow, 1) := by decide +kernel
theorem dJ7_rangeCheck_23922_46 : decode cJ7_rangeCheck_23922 46 = .ok (.iload_n 1, 1) := by decide +kernel
theorem dJ7_rangeCheck_23922_47 : decode cJ7_rangeCheck_23922 47 = .ok (.ifCond .ge 12, 3) := by decide +kernel
theorem dJ7_rangeCheck_23922_50 : decode cJ7_rangeCheck_23922 50 = .ok (.new 68, 3) := by decide +kernel
theorem dJ7_rangeCheck_23922_53 : decode cJ7_rangeCheck_23922 53 = .ok (.dup, 1) := by decide +kernel
theorem dJ7_rangeCheck_23922_54 : decode cJ7_rangeCheck_23922 54 = .ok (.iload_n 1, 1) := by decide +kernel
theorem dJ7_rangeCheck_23922_55 : decode cJ7_rangeCheck_23922 55 = .ok (.invokespecial 70, 3) := by decide +kernel
theorem dJ7_rangeCheck_23922_58 : decode cJ7_rangeCheck_23922 58 = .ok (.athrow, 1) := by decide +kernel
theorem dJ7_rangeCheck_23922_59 : decode cJ7_rangeCheck_23922 59 = .ok (.iload_n 2, 1) := by decide +kernel
theorem dJ7_rangeCheck_23922_60 : decode cJ7_rangeCheck_23922 60 = .ok (.iload_n 0, 1) := by decide +kernel
theorem dJ7_rangeCheck_23922_61 : decode cJ7_rangeCheck_23922 61 = .ok (.if_icmp .le 12, 3) := by decide +kernel
theorem dJ7_rangeCheck_23922_64 : decode cJ7_rangeCheck_23922 64 = .ok (.new 68, 3) := by decide +kernel
theorem dJ7_rangeCheck_23922_67 : decode cJ7_rangeCheck_23922 67 = .ok (.dup, 1) := by decide +kernel
theorem dJ7_rangeCheck_23922_68 : decode cJ7_rangeCheck_23922 68 = .ok (.iload_n 2, 1) := by decide +kernel
theorem dJ7_rangeCheck_23922_69 : decode cJ7_rangeCheck_23922 69 = .ok (.invokespecial 70, 3) := by decide +kernel
theorem dJ7_rangeCheck_23922_72 : decode cJ7_rangeCheck_23922 72 = .ok (.athrow, 1) := by decide +kernel
theorem dJ7_rangeCheck_23922_73 : decode cJ7_rangeCheck_23922 73 = .ok (.return_, 1) := by decide +kernel
theorem dJ7_fill_fda19_0 : decode cJ7_fill_fda19 0 = .ok (.aload_n 0, 1) := by decide +kernel
theorem dJ7_fill_fda19_1 : decode cJ7_fill_fda19 1 = .ok (.arraylength, 1) := by decide +kernel
theorem dJ7_fill_fda19_2 : decode cJ7_fill_fda19 2 = .ok (.iload_n 1, 1) := by decide +kernel
theorem dJ7_fill_fda19_3 : decode cJ7_fill_fda19 3 = .ok (.iload_n 2, 1) := by decide +kernel
theorem dJ7_fill_fda19_4 : decode cJ7_fill_fda19 4 = .ok (.invokestatic 13, 3) := by decide +kernel
theorem dJ7_fill_fda19_7 : decode cJ7_fill_fda19 7 = .ok (.iload_n 1, 1) := by decide +kernel
theorem dJ7_fill_fda19_8 : decode cJ7_fill_fda19 8 = .ok (.istore 4, 2) := by decide +kernel
theorem dJ7_fill_fda19_10 : decode cJ7_fill_fda19 10 = .ok (.iload 4, 2) := by decide +kernel
theorem dJ7_fill_fda19_12 : decode cJ7_fill_fda19 12 = .ok (.iload_n 2, 1) := by decide +kernel
theorem dJ7_fill_fda19_13 : decode cJ7_fill_fda19 13 = .ok (.if_icmp .ge 14, 3) := by decide +kernel
theorem dJ7_fill_fda19_16 : decode cJ7_fill_fda19 16 = .ok (.aload_n 0, 1) := by decide +kernel
theorem dJ7_fill_fda19_17 : decode cJ7_fill_fda19 17 = .ok (.iload 4, 2) := by decide +kernel
theorem dJ7_fill_fda19_19 : decode cJ7_fill_fda19 19 = .ok (.iload_n 3, 1) := by decide +kernel
theorem dJ7_fill_fda19_20 : decode cJ7_fill_fda19 20 = .ok (.iastore, 1) := by decide +kernel
theorem dJ7_fill_fda19_21 : decode cJ7_fill_fda19 21 = .ok (.iinc 4 1, 3) := by decide +kernel
theorem dJ7_fill_fda19_24 : decode cJ7_fill_fda19 24 = .ok (.goto (-14), 3) := by decide +kernel
theorem dJ7_fill_fda19_27 : decode cJ7_fill_fda19 27 = .ok (.return_, 1) := by decide +kernel
theorem dX7_reach_0 : decode cX7_reach 0 = .ok (.aload_n 0, 1) := by decide +kernel
theorem dX7_reach_1 : decode cX7_reach 1 = .ok (.aload_n 0, 1) := by decide +kernel
theorem dX7_reach_2 : decode cX7_reach 2 = .ok (.getfield 25, 3) := by decide +kernel
theorem dX7_reach_5 : decode cX7_reach 5 = .ok (.iload_n 1, 1) := by decide +kernel
theorem dX7_reach_6 : decode cX7_reach 6 = .ok (.invokestatic 31, 3) := by decide +kernel
theorem dX7_reach_9 : decode cX7_reach 9 = .ok (.putfield 25, 3) := by decide +kernel
theorem dX7_reach_12 : decode cX7_reach 12 = .ok (.return_, 1) := by decide +kernel
theorem dX7_add_0 : decode cX7_add 0 = .ok (.aload_n 0, 1) := by decide +kernel
theorem dX7_add_1 : decode cX7_add 1 = .ok (.aload_n 0, 1) := by decide +kernel
theorem dX7_add_2 : decode cX7_add 2 = .ok (.getfield 19, 3) := by decide +kernel
theorem dX7_add_5 : decode cX7_add 5 = .ok (.iload_n 1, 1) := by decide +kernel
theorem dX7_add_6 : decode cX7_add 6 = .ok (.iadd, 1) := by decide +kernel
theorem dX7_add_7 : decode cX7_add 7 = .ok (.sipush 255, 3) := by decide +kernel
theorem dX7_add_10 : decode cX7_add 10 = .ok (.iand, 1) := by decide +kernel
theorem dX7_add_11 : decode cX7_add 11 = .ok (.putfield 19, 3) := by decide +kernel
theorem dX7_add_14 : decode cX7_add 14 = .ok (.return_, 1) := by decide +kernel
theorem dX7_tellA_0 : decode cX7_tellA 0 = .ok (.aload_n 0, 1) := by decide +kernel
theorem dX7_tellA_1 : decode cX7_tellA 1 = .ok (.getfield 22, 3) := by decide +kernel
theorem dX7_tellA_4 : decode cX7_tellA 4 = .ok (.bipush 100, 2) := by decide +kernel
theorem dX7_tellA_6 : decode cX7_tellA 6 = .ok (.if_icmp .ge 16, 3) := by decide +kernel
theorem dX7_tellA_9 : decode cX7_tellA 9 = .ok (.aload_n 0, 1) := by decide +kernel
theorem dX7_tellA_10 : decode cX7_tellA 10 = .ok (.getfield 9, 3) := by decide +kernel
theorem dX7_tellA_13 : decode cX7_tellA 13 = .ok (.aload_n 0, 1) := by decide +kernel
theorem dX7_tellA_14 : decode cX7_tellA 14 = .ok (.getfield 22, 3) := by decide +kernel
theorem dX7_tellA_17 : decode cX7_tellA 17 = .ok (.aload_n 0, 1) := by decide +kernel
theorem dX7_tellA_18 : decode cX7_tellA 18 = .ok (.getfield 19, 3) := by decide +kernel
theorem dX7_tellA_21 : decode cX7_tellA 21 = .ok (.iastore, 1) := by decide +kernel
theorem dX7_tellA_22 : decode cX7_tellA 22 = .ok (.aload_n 0, 1) := by decide +kernel
theorem dX7_tellA_23 : decode cX7_tellA 23 = .ok (.dup, 1) := by decide +kernel
theorem dX7_tellA_24 : decode cX7_tellA 24 = .ok (.getfield 22, 3) := by decide +kernel
theorem dX7_tellA_27 : decode cX7_tellA 27 = .ok (.iconst 1, 1) := by decide +kernel
theorem dX7_tellA_28 : decode cX7_tellA 28 = .ok (.iadd, 1) := by decide +kernel
theorem dX7_tellA_29 : decode cX7_tellA 29 = .ok (.putfield 22, 3) := by decide +kernel
theorem dX7_tellA_32 : decode cX7_tellA 32 = .ok (.return_, 1) := by decide +kernel
theorem dX7_begin_0 : decode cX7_begin 0 = .ok (.aload_n 0, 1) := by decide +kernel
theorem dX7_begin_1 : decode cX7_begin 1 = .ok (.iconst 0, 1) := by decide +kernel
theorem dX7_begin_2 : decode cX7_begin 2 = .ok (.putfield 15, 3) := by decide +kernel
theorem dX7_begin_5 : decode cX7_begin 5 = .ok (.aload_n 0, 1) := by decide +kernel
theorem dX7_begin_6 : decode cX7_begin 6 = .ok (.iload_n 1, 1) := by decide +kernel
theorem dX7_begin_7 : decode cX7_begin 7 = .ok (.putfield 19, 3) := by decide +kernel
theorem dX7_begin_10 : decode cX7_begin 10 = .ok (.aload_n 0, 1) := by decide +kernel
theorem dX7_begin_11 : decode cX7_begin 11 = .ok (.iconst 0, 1) := by decide +kernel
theorem dX7_begin_12 : decode cX7_begin 12 = .ok (.putfield 22, 3) := by decide +kernel
theorem dX7_begin_15 : decode cX7_begin 15 = .ok (.aload_n 0, 1) := by decide +kernel
theorem dX7_begin_16 : decode cX7_begin 16 = .ok (.iconst 0, 1) := by decide +kernel
theorem dX7_begin_17 : decode cX7_begin 17 = .ok (.putfield 25, 3) := by decide +kernel
theorem dX7_begin_20 : decode cX7_begin 20 = .ok (.aload_n 0, 1) := by decide +kernel
theorem dX7_begin_21 : decode cX7_begin 21 = .ok (.iconst 0, 1) := by decide +kernel
theorem dX7_begin_22 : decode cX7_begin 22 = .ok (.putfield 28, 3) := by decide +kernel
theorem dX7_begin_25 : decode cX7_begin 25 = .ok (.return_, 1) := by decide +kernel
theorem dJ7_fill_53178_0 : decode cJ7_fill_53178 0 = .ok (.iconst 0, 1) := by decide +kernel
theorem dJ7_fill_53178_1 : decode cJ7_fill_53178 1 = .ok (.istore_n 2, 1) := by decide +kernel
theorem dJ7_fill_53178_2 : decode cJ7_fill_53178 2 = .ok (.aload_n 0, 1) := by decide +kernel
theorem dJ7_fill_53178_3 : decode cJ7_fill_53178 3 = .ok (.arraylength, 1) := by decide +kernel
theorem dJ7_fill_53178_4 : decode cJ7_fill_53178 4 = .ok (.istore_n 3, 1) := by decide +kernel
theorem dJ7_fill_53178_5 : decode cJ7_fill_53178 5 = .ok (.iload_n 2, 1) := by decide +kernel
theorem dJ7_fill_53178_6 : decode cJ7_fill_53178 6 = .ok (.iload_n 3, 1) := by decide +kernel
theorem dJ7_fill_53178_7 : decode cJ7_fill_53178 7 = .ok (.if_icmp .ge 13, 3) := by decide +kernel
theorem dJ7_fill_53178_10 : decode cJ7_fill_53178 10 = .ok (.aload_n 0, 1) := by decide +kernel
theorem dJ7_fill_53178_11 : decode cJ7_fill_53178 11 = .ok (.iload_n 2, 1) := by decide +kernel
theorem dJ7_fill_53178_12 : decode cJ7_fill_53178 12 = .ok (.iload_n 1, 1) := by decide +kernel
theorem dJ7_fill_53178_13 : decode cJ7_fill_53178 13 = .ok (.iastore, 1) := by decide +kernel
theorem dJ7_fill_53178_14 : decode cJ7_fill_53178 14 = .ok (.iinc 2 1, 3) := by decide +kernel
theorem dJ7_fill_53178_17 : decode cJ7_fill_53178 17 = .ok (.goto (-12), 3) := by decide +kernel
theorem dJ7_fill_53178_20 : decode cJ7_fill_53178 20 = .ok (.return_, 1) := by decide +kernel
theorem dX6_bytesOfClear_0 : decode cX6_bytesOfClear 0 = .ok (.aload_n 0, 1) := by decide +kernel
theorem dX6_bytesOfClear_1 : decode cX6_bytesOfClear 1 = .ok (.getfield 25, 3) := by decide +kernel
theorem dX6_bytesOfClear_4 : decode cX6_bytesOfClear 4 = .ok (.iload_n 1, 1) := by decide +kernel
theorem dX6_bytesOfClear_5 : decode cX6_bytesOfClear 5 = .ok (.iaload, 1) := by decide +kernel
theorem dX6_bytesOfClear_6 : decode cX6_bytesOfClear 6 = .ok (.ifCond .le 7, 3) := by decide +kernel
theorem dX6_bytesOfClear_9 : decode cX6_bytesOfClear 9 = .ok (.iconst 3, 1) := by decide +kernel
theorem dX6_bytesOfClear_10 : decode cX6_bytesOfClear 10 = .ok (.goto 4, 3) := by decide +kernel
theorem dX6_bytesOfClear_13 : decode cX6_bytesOfClear 13 = .ok (.iconst 0, 1) := by decide +kernel
theorem dX6_bytesOfClear_14 : decode cX6_bytesOfClear 14 = .ok (.ireturn, 1) := by decide +kernel
theorem dX6_offsetOf_0 : decode cX6_offsetOf 0 = .ok (.aload_n 0, 1) := by decide +kernel
theorem dX6_offsetOf_1 : decode cX6_offsetOf 1 = .ok (.iload_n 1, 1) := by decide +kernel
theorem dX6_offsetOf_2 : decode cX6_offsetOf 2 = .ok (.invokevirtual 56, 3) := by decide +kernel
theorem dX6_offsetOf_5 : decode cX6_offsetOf 5 = .ok (.istore_n 3, 1) := by decide +kernel
theorem dX6_offsetOf_6 : decode cX6_offsetOf 6 = .ok (.iconst 0, 1) := by decide +kernel
theorem dX6_offsetOf_7 : decode cX6_offsetOf 7 = .ok (.istore 4, 2) := by decide +kernel
theorem dX6_offsetOf_9 : decode cX6_offsetOf 9 = .ok (.iload 4, 2) := by decide +kernel
theorem dX6_offsetOf_11 : decode cX6_offsetOf 11 = .ok (.iload_n 2, 1) := by decide +kernel
theorem dX6_offsetOf_12 : decode cX6_offsetOf 12 = .ok (.if_icmp .ge 23, 3) := by decide +kernel
theorem dX6_offsetOf_15 : decode cX6_offsetOf 15 = .ok (.iload_n 3, 1) := by decide +kernel
theorem dX6_offsetOf_16 : decode cX6_offsetOf 16 = .ok (.getstatic 60, 3) := by decide +kernel
theorem dX6_offsetOf_19 : decode cX6_offsetOf 19 = .ok (.aload_n 0, 1) := by decide +kernel
theorem dX6_offsetOf_20 : decode cX6_offsetOf 20 = .ok (.iload_n 1, 1) := by decide +kernel
theorem dX6_offsetOf_21 : decode cX6_offsetOf 21 = .ok (.iload 4, 2) := by decide +kernel
theorem dX6_offsetOf_23 : decode cX6_offsetOf 23 = .ok (.invokevirtual 52, 3) := by decide +kernel
theorem dX6_offsetOf_26 : decode cX6_offsetOf 26 = .ok (.iaload, 1) := by decide +kernel
theorem dX6_offsetOf_27 : decode cX6_offsetOf 27 = .ok (.iadd, 1) := by decide +kernel
theorem dX6_offsetOf_28 : decode cX6_offsetOf 28 = .ok (.istore_n 3, 1) := by decide +kernel
theorem dX6_offsetOf_29 : decode cX6_offsetOf 29 = .ok (.iinc 4 1, 3) := by decide +kernel
theorem dX6_offsetOf_32 : decode cX6_offsetOf 32 = .ok (.goto (-23), 3) := by decide +kernel
theorem dX6_offsetOf_35 : decode cX6_offsetOf 35 = .ok (.iload_n 3, 1) := by decide +kernel
theorem dX6_offsetOf_36 : decode cX6_offsetOf 36 = .ok (.ireturn, 1) := by decide +kernel
theorem dX6_bytesOf_0 : decode cX6_bytesOf 0 = .ok (.aload_n 0, 1) := by decide +kernel
theorem dX6_bytesOf_1 : decode cX6_bytesOf 1 = .ok (.iload_n 1, 1) := by decide +kernel
theorem dX6_bytesOf_2 : decode cX6_bytesOf 2 = .ok (.aload_n 0, 1) := by decide +kernel
theorem dX6_bytesOf_3 : decode cX6_bytesOf 3 = .ok (.getfield 28, 3) := by decide +kernel
theorem dX6_bytesOf_6 : decode cX6_bytesOf 6 = .ok (.iload_n 1, 1) := by decide +kernel
theorem dX6_bytesOf_7 : decode cX6_bytesOf 7 = .ok (.iaload, 1) := by decide +kernel
theorem dX6_bytesOf_8 : decode cX6_bytesOf 8 = .ok (.iconst 1, 1) := by decide +kernel
theorem dX6_bytesOf_9 : decode cX6_bytesOf 9 = .ok (.iadd, 1) := by decide +kernel
theorem dX6_bytesOf_10 : decode cX6_bytesOf 10 = .ok (.invokevirtual 63, 3) := by decide +kernel
theorem dX6_bytesOf_13 : decode cX6_bytesOf 13 = .ok (.ireturn, 1) := by decide +kernel
theorem dX6_isJump_0 : decode cX6_isJump 0 = .ok (.aload_n 0, 1) := by decide +kernel
theorem dX6_isJump_1 : decode cX6_isJump 1 = .ok (.iload_n 1, 1) := by decide +kernel
theorem dX6_isJump_2 : decode cX6_isJump 2 = .ok (.iload_n 2, 1) := by decide +kernel
theorem dX6_isJump_3 : decode cX6_isJump 3 = .ok (.invokevirtual 52, 3) := by decide +kernel
theorem dX6_isJump_6 : decode cX6_isJump 6 = .ok (.istore_n 3, 1) := by decide +kernel
theorem dX6_isJump_7 : decode cX6_isJump 7 = .ok (.iload_n 3, 1) := by decide +kernel
theorem dX6_isJump_8 : decode cX6_isJump 8 = .ok (.bipush 6, 2) := by decide +kernel
theorem dX6_isJump_10 : decode cX6_isJump 10 = .ok (.if_icmp .eq 9, 3) := by decide +kernel
theorem dX6_isJump_13 : decode cX6_isJump 13 = .ok (.iload_n 3, 1) := by decide +kernel
theorem dX6_isJump_14 : decode cX6_isJump 14 = .ok (.bipush 7, 2) := by decide +kernel
theorem dX6_isJump_16 : decode cX6_isJump 16 = .ok (.if_icmp .ne 7, 3) := by decide +kernel
theorem dX6_isJump_19 : decode cX6_isJump 19 = .ok (.iconst 1, 1) := by decide +kernel
theorem dX6_isJump_20 : decode cX6_isJump 20 = .ok (.goto 4, 3) := by decide +kernel
theorem dX6_isJump_23 : decode cX6_isJump 23 = .ok (.iconst 0, 1) := by decide +kernel
theorem dX6_isJump_24 : decode cX6_isJump 24 = .ok (.ireturn, 1) := by decide +kernel
theorem dX6_hasModule_0 : decode cX6_hasModule 0 = .ok (.iload_n 1, 1) := by decide +kernel
theorem dX6_hasModule_1 : decode cX6_hasModule 1 = .ok (.ifCond .lt 15, 3) := by decide +kernel
theorem dX6_hasModule_4 : decode cX6_hasModule 4 = .ok (.iload_n 1, 1) := by decide +kernel
theorem dX6_hasModule_5 : decode cX6_hasModule 5 = .ok (.aload_n 0, 1) := by decide +kernel
theorem dX6_hasModule_6 : decode cX6_hasModule 6 = .ok (.getfield 9, 3) := by decide +kernel
theorem dX6_hasModule_9 : decode cX6_hasModule 9 = .ok (.if_icmp .ge 7, 3) := by decide +kernel
theorem dX6_hasModule_12 : decode cX6_hasModule 12 = .ok (.iconst 1, 1) := by decide +kernel
theorem dX6_hasModule_13 : decode cX6_hasModule 13 = .ok (.goto 4, 3) := by decide +kernel
theorem dX6_hasModule_16 : decode cX6_hasModule 16 = .ok (.iconst 0, 1) := by decide +kernel
theorem dX6_hasModule_17 : decode cX6_hasModule 17 = .ok (.ireturn, 1) := by decide +kernel
theorem dX6_hasRoutine_0 : decode cX6_hasRoutine 0 = .ok (.iload_n 1, 1) := by decide +kernel
theorem dX6_hasRoutine_1 : decode cX6_hasRoutine 1 = .ok (.ifCond .lt 15, 3) := by decide +kernel
theorem dX6_hasRoutine_4 : decode cX6_hasRoutine 4 = .ok (.iload_n 1, 1) := by decide +kernel
theorem dX6_hasRoutine_5 : decode cX6_hasRoutine 5 = .ok (.aload_n 0, 1) := by decide +kernel
theorem dX6_hasRoutine_6 : decode cX6_hasRoutine 6 = .ok (.getfield 19, 3) := by decide +kernel
theorem dX6_hasRoutine_9 : decode cX6_hasRoutine 9 = .ok (.if_icmp .ge 7, 3) := by decide +kernel
theorem dX6_hasRoutine_12 : decode cX6_hasRoutine 12 = .ok (.iconst 1, 1) := by decide +kernel
theorem dX6_hasRoutine_13 : decode cX6_hasRoutine 13 = .ok (.goto 4, 3) := by decide +kernel
theorem dX6_hasRoutine_16 : decode cX6_hasRoutine 16 = .ok (.iconst 0, 1) := by decide +kernel
theorem dX6_hasRoutine_17 : decode cX6_hasRoutine 17 = .ok (.ireturn, 1) := by decide +kernel
theorem dX6_addModule_0 : decode cX6_addModule 0 = .ok (.aload_n 0, 1) := by decide +kernel
theorem dX6_addModule_1 : decode cX6_addModule 1 = .ok (.getfield 15, 3) := by decide +kernel
theorem dX6_addModule_4 : decode cX6_addModule 4 = .ok (.aload_n 0, 1) := by decide +kernel
theorem dX6_addModule_5 : decode cX6_addModule 5 = .ok (.getfield 9, 3) := by decide +kernel
theorem dX6_addModule_8 : decode cX6_addModule 8 = .ok (.iload_n 1, 1) := by decide +kernel
theorem dX6_addModule_9 : decode cX6_addModule 9 = .ok (.iastore, 1) := by decide +kernel
theorem dX6_addModule_10 : decode cX6_addModule 10 = .ok (.aload_n 0, 1) := by decide +kernel
theorem dX6_addModule_11 : decode cX6_addModule 11 = .ok (.dup, 1) := by decide +kernel
theorem dX6_addModule_12 : decode cX6_addModule 12 = .ok (.getfield 9, 3) := by decide +kernel
theorem dX6_addModule_15 : decode cX6_addModule 15 = .ok (.iconst 1, 1) := by decide +kernel
theorem dX6_addModule_16 : decode cX6_addModule 16 = .ok (.iadd, 1) := by decide +kernel
theorem dX6_addModule_17 : decode cX6_addModule 17 = .ok (.putfield 9, 3) := by decide +kernel
theorem dX6_addModule_20 : decode cX6_addModule 20 = .ok (.aload_n 0, 1) := by decide +kernel
theorem dX6_addModule_21 : decode cX6_addModule 21 = .ok (.getfield 9, 3) := by decide +kernel
theorem dX6_addModule_24 : decode cX6_addModule 24 = .ok (.iconst 1, 1) := by decide +kernel
theorem dX6_addModule_25 : decode cX6_addModule 25 = .ok (.isub, 1) := by decide +kernel
theorem dX6_addModule_26 : decode cX6_addModule 26 = .ok (.ireturn, 1) := by decide +kernel
theorem dX6_addRoutine_0 : decode cX6_addRoutine 0 = .ok (.aload_n 0, 1) := by decide +kernel
theorem dX6_addRoutine_1 : decode cX6_addRoutine 1 = .ok (.getfield 22, 3) := by decide +kernel
theorem dX6_addRoutine_4 : decode cX6_addRoutine 4 = .ok (.aload_n 0, 1) := by decide +kernel
theorem dX6_addRoutine_5 : decode cX6_addRoutine 5 = .ok (.getfield 19, 3) := by decide +kernel
theorem dX6_addRoutine_8 : decode cX6_addRoutine 8 = .ok (.iload_n 1, 1) := by decide +kernel
theorem dX6_addRoutine_9 : decode cX6_addRoutine 9 = .ok (.iastore, 1) := by decide +kernel
theorem dX6_addRoutine_10 : decode cX6_addRoutine 10 = .ok (.aload_n 0, 1) := by decide +kernel
theorem dX6_addRoutine_11 : decode cX6_addRoutine 11 = .ok (.getfield 25, 3) := by decide +kernel
theorem dX6_addRoutine_14 : decode cX6_addRoutine 14 = .ok (.aload_n 0, 1) := by decide +kernel
theorem dX6_addRoutine_15 : decode cX6_addRoutine 15 = .ok (.getfield 19, 3) := by decide +kernel
theorem dX6_addRoutine_18 : decode cX6_addRoutine 18 = .ok (.iload_n 2, 1) := by decide +kernel
theorem dX6_addRoutine_19 : decode cX6_addRoutine 19 = .ok (.iastore, 1) := by decide +kernel
theorem dX6_addRoutine_20 : decode cX6_addRoutine 20 = .ok (.aload_n 0, 1) := by decide +kernel
theorem dX6_addRoutine_21 : decode cX6_addRoutine 21 = .ok (.dup, 1) := by decide +kernel
theorem dX6_addRoutine_22 : decode cX6_addRoutine 22 = .ok (.getfield 19, 3) := by decide +kernel
theorem dX6_addRoutine_25 : decode cX6_addRoutine 25 = .ok (.iconst 1, 1) := by decide +kernel
theorem dX6_addRoutine_26 : decode cX6_addRoutine 26 = .ok (.iadd, 1) := by decide +kernel
theorem dX6_addRoutine_27 : decode cX6_addRoutine 27 = .ok (.putfield 19, 3) := by decide +kernel
theorem dX6_addRoutine_30 : decode cX6_addRoutine 30 = .ok (.aload_n 0, 1) := by decide +kernel
theorem dX6_addRoutine_31 : decode cX6_addRoutine 31 = .ok (.getfield 19, 3) := by decide +kernel
theorem dX6_addRoutine_34 : decode cX6_addRoutine 34 = .ok (.iconst 1, 1) := by decide +kernel
theorem dX6_addRoutine_35 : decode cX6_addRoutine 35 = .ok (.isub, 1) := by decide +kernel
theorem dX6_addRoutine_36 : decode cX6_addRoutine 36 = .ok (.ireturn, 1) := by decide +kernel
theorem dX6_addOp_0 : decode cX6_addOp 0 = .ok (.iload_n 1, 1) := by decide +kernel
theorem dX6_addOp_1 : decode cX6_addOp 1 = .ok (.bipush 40, 2) := by decide +kernel
theorem dX6_addOp_3 : decode cX6_addOp 3 = .ok (.imul, 1) := by decide +kernel
theorem dX6_addOp_4 : decode cX6_addOp 4 = .ok (.aload_n 0, 1) := by decide +kernel
theorem dX6_addOp_5 : decode cX6_addOp 5 = .ok (.getfield 28, 3) := by decide +kernel
theorem dX6_addOp_8 : decode cX6_addOp 8 = .ok (.iload_n 1, 1) := by decide +kernel
theorem dX6_addOp_9 : decode cX6_addOp 9 = .ok (.iaload, 1) := by decide +kernel
theorem dX6_addOp_10 : decode cX6_addOp 10 = .ok (.iadd, 1) := by decide +kernel
theorem dX6_addOp_11 : decode cX6_addOp 11 = .ok (.istore 4, 2) := by decide +kernel
theorem dX6_addOp_13 : decode cX6_addOp 13 = .ok (.aload_n 0, 1) := by decide +kernel
theorem dX6_addOp_14 : decode cX6_addOp 14 = .ok (.getfield 31, 3) := by decide +kernel
theorem dX6_addOp_17 : decode cX6_addOp 17 = .ok (.iload 4, 2) := by decide +kernel
theorem dX6_addOp_19 : decode cX6_addOp 19 = .ok (.iload_n 2, 1) := by decide +kernel
theorem dX6_addOp_20 : decode cX6_addOp 20 = .ok (.iastore, 1) := by decide +kernel
theorem dX6_addOp_21 : decode cX6_addOp 21 = .ok (.aload_n 0, 1) := by decide +kernel
theorem dX6_addOp_22 : decode cX6_addOp 22 = .ok (.getfield 34, 3) := by decide +kernel
theorem dX6_addOp_25 : decode cX6_addOp 25 = .ok (.iload 4, 2) := by decide +kernel
theorem dX6_addOp_27 : decode cX6_addOp 27 = .ok (.iload_n 3, 1) := by decide +kernel
theorem dX6_addOp_28 : decode cX6_addOp 28 = .ok (.iastore, 1) := by decide +kernel
theorem dX6_addOp_29 : decode cX6_addOp 29 = .ok (.aload_n 0, 1) := by decide +kernel
theorem dX6_addOp_30 : decode cX6_addOp 30 = .ok (.getfield 28, 3) := by decide +kernel
theorem dX6_addOp_33 : decode cX6_addOp 33 = .ok (.iload_n 1, 1) := by decide +kernel
theorem dX6_addOp_34 : decode cX6_addOp 34 = .ok (.dup2, 1) := by decide +kernel
theorem dX6_addOp_35 : decode cX6_addOp 35 = .ok (.iaload, 1) := by decide +kernel
theorem dX6_addOp_36 : decode cX6_addOp 36 = .ok (.iconst 1, 1) := by decide +kernel
theorem dX6_addOp_37 : decode cX6_addOp 37 = .ok (.iadd, 1) := by decide +kernel
theorem dX6_addOp_38 : decode cX6_addOp 38 = .ok (.iastore, 1) := by decide +kernel
theorem dX6_addOp_39 : decode cX6_addOp 39 = .ok (.aload_n 0, 1) := by decide +kernel
theorem dX6_addOp_40 : decode cX6_addOp 40 = .ok (.getfield 28, 3) := by decide +kernel
theorem dX6_addOp_43 : decode cX6_addOp 43 = .ok (.iload_n 1, 1) := by decide +kernel
theorem dX6_addOp_44 : decode cX6_addOp 44 = .ok (.iaload, 1) := by decide +kernel
theorem dX6_addOp_45 : decode cX6_addOp 45 = .ok (.ireturn, 1) := by decide +kernel
theorem dX6_mayAdd_0 : decode cX6_mayAdd 0 = .ok (.iload_n 2, 1) := by decide +kernel
theorem dX6_mayAdd_1 : decode cX6_mayAdd 1 = .ok (.tableswitch 106 0 7 #[47, 47, 106, 64, 64, 84, 90, 90], 47) := by decide +kernel
theorem dX6_mayAdd_48 : decode cX6_mayAdd 48 = .ok (.iload_n 3, 1) := by decide +kernel
theorem dX6_mayAdd_49 : decode cX6_mayAdd 49 = .ok (.ifCond .lt 14, 3) := by decide +kernel
theorem dX6_mayAdd_52 : decode cX6_mayAdd 52 = .ok (.iload_n 3, 1) := by decide +kernel
theorem dX6_mayAdd_53 : decode cX6_mayAdd 53 = .ok (.sipush 255, 3) := by decide +kernel
theorem dX6_mayAdd_56 : decode cX6_mayAdd 56 = .ok (.if_icmp .gt 7, 3) := by decide +kernel
theorem dX6_mayAdd_59 : decode cX6_mayAdd 59 = .ok (.iconst 1, 1) := by decide +kernel
theorem dX6_mayAdd_60 : decode cX6_mayAdd 60 = .ok (.goto 4, 3) := by decide +kernel
theorem dX6_mayAdd_63 : decode cX6_mayAdd 63 = .ok (.iconst 0, 1) := by decide +kernel
theorem dX6_mayAdd_64 : decode cX6_mayAdd 64 = .ok (.ireturn, 1) := by decide +kernel
theorem dX6_mayAdd_65 : decode cX6_mayAdd 65 = .ok (.iload_n 3, 1) := by decide +kernel
theorem dX6_mayAdd_66 : decode cX6_mayAdd 66 = .ok (.ifCond .lt 17, 3) := by decide +kernel
theorem dX6_mayAdd_69 : decode cX6_mayAdd 69 = .ok (.iload_n 3, 1) := by decide +kernel
theorem dX6_mayAdd_70 : decode cX6_mayAdd 70 = .ok (.aload_n 0, 1) := by decide +kernel
theorem dX6_mayAdd_71 : decode cX6_mayAdd 71 = .ok (.getfield 25, 3) := by decide +kernel
theorem dX6_mayAdd_74 : decode cX6_mayAdd 74 = .ok (.iload_n 1, 1) := by decide +kernel
theorem dX6_mayAdd_75 : decode cX6_mayAdd 75 = .ok (.iaload, 1) := by decide +kernel
theorem dX6_mayAdd_76 : decode cX6_mayAdd 76 = .ok (.if_icmp .ge 7, 3) := by decide +kernel
theorem dX6_mayAdd_79 : decode cX6_mayAdd 79 = .ok (.iconst 1, 1) := by decide +kernel
theorem dX6_mayAdd_80 : decode cX6_mayAdd 80 = .ok (.goto 4, 3) := by decide +kernel
theorem dX6_mayAdd_83 : decode cX6_mayAdd 83 = .ok (.iconst 0, 1) := by decide +kernel
theorem dX6_mayAdd_84 : decode cX6_mayAdd 84 = .ok (.ireturn, 1) := by decide +kernel
theorem dX6_mayAdd_85 : decode cX6_mayAdd 85 = .ok (.aload_n 0, 1) := by decide +kernel
theorem dX6_mayAdd_86 : decode cX6_mayAdd 86 = .ok (.iload_n 3, 1) := by decide +kernel
theorem dX6_mayAdd_87 : decode cX6_mayAdd 87 = .ok (.invokevirtual 48, 3) := by decide +kernel
theorem dX6_mayAdd_90 : decode cX6_mayAdd 90 = .ok (.ireturn, 1) := by decide +kernel
theorem dX6_mayAdd_91 : decode cX6_mayAdd 91 = .ok (.iload_n 3, 1) := by decide +kernel
theorem dX6_mayAdd_92 : decode cX6_mayAdd 92 = .ok (.ifCond .lt 13, 3) := by decide +kernel
theorem dX6_mayAdd_95 : decode cX6_mayAdd 95 = .ok (.iload_n 3, 1) := by decide +kernel
theorem dX6_mayAdd_96 : decode cX6_mayAdd 96 = .ok (.bipush 40, 2) := by decide +kernel
theorem dX6_mayAdd_98 : decode cX6_mayAdd 98 = .ok (.if_icmp .gt 7, 3) := by decide +kernel
theorem dX6_mayAdd_101 : decode cX6_mayAdd 101 = .ok (.iconst 1, 1) := by decide +kernel
theorem dX6_mayAdd_102 : decode cX6_mayAdd 102 = .ok (.goto 4, 3) := by decide +kernel
theorem dX6_mayAdd_105 : decode cX6_mayAdd 105 = .ok (.iconst 0, 1) := by decide +kernel
theorem dX6_mayAdd_106 : decode cX6_mayAdd 106 = .ok (.ireturn, 1) := by decide +kernel
theorem dX6_mayAdd_107 : decode cX6_mayAdd 107 = .ok (.iload_n 2, 1) := by decide +kernel
theorem dX6_mayAdd_108 : decode cX6_mayAdd 108 = .ok (.iconst 2, 1) := by decide +kernel
theorem dX6_mayAdd_109 : decode cX6_mayAdd 109 = .ok (.if_icmp .eq 9, 3) := by decide +kernel
theorem dX6_mayAdd_112 : decode cX6_mayAdd 112 = .ok (.iload_n 2, 1) := by decide +kernel
theorem dX6_mayAdd_113 : decode cX6_mayAdd 113 = .ok (.bipush 8, 2) := by decide +kernel
theorem dX6_mayAdd_115 : decode cX6_mayAdd 115 = .ok (.if_icmp .ne 7, 3) := by decide +kernel
theorem dX6_mayAdd_118 : decode cX6_mayAdd 118 = .ok (.iconst 1, 1) := by decide +kernel
theorem dX6_mayAdd_119 : decode cX6_mayAdd 119 = .ok (.goto 4, 3) := by decide +kernel
theorem dX6_mayAdd_122 : decode cX6_mayAdd 122 = .ok (.iconst 0, 1) := by decide +kernel
theorem dX6_mayAdd_123 : decode cX6_mayAdd 123 = .ok (.ireturn, 1) := by decide +kernel
theorem dX6_opsOfAll_0 : decode cX6_opsOfAll 0 = .ok (.iconst 0, 1) := by decide +kernel
theorem dX6_opsOfAll_1 : decode cX6_opsOfAll 1 = .ok (.istore_n 1, 1) := by decide +kernel
theorem dX6_opsOfAll_2 : decode cX6_opsOfAll 2 = .ok (.iconst 0, 1) := by decide +kernel
theorem dX6_opsOfAll_3 : decode cX6_opsOfAll 3 = .ok (.istore_n 2, 1) := by decide +kernel
theorem dX6_opsOfAll_4 : decode cX6_opsOfAll 4 = .ok (.iload_n 2, 1) := by decide +kernel
theorem dX6_opsOfAll_5 : decode cX6_opsOfAll 5 = .ok (.aload_n 0, 1) := by decide +kernel
theorem dX6_opsOfAll_6 : decode cX6_opsOfAll 6 = .ok (.getfield 19, 3) := by decide +kernel
theorem dX6_opsOfAll_9 : decode cX6_opsOfAll 9 = .ok (.if_icmp .ge 18, 3) := by decide +kernel
theorem dX6_opsOfAll_12 : decode cX6_opsOfAll 12 = .ok (.iload_n 1, 1) := by decide +kernel
theorem dX6_opsOfAll_13 : decode cX6_opsOfAll 13 = .ok (.aload_n 0, 1) := by decide +kernel
theorem dX6_opsOfAll_14 : decode cX6_opsOfAll 14 = .ok (.getfield 28, 3) := by decide +kernel
theorem dX6_opsOfAll_17 : decode cX6_opsOfAll 17 = .ok (.iload_n 2, 1) := by decide +kernel
theorem dX6_opsOfAll_18 : decode cX6_opsOfAll 18 = .ok (.iaload, 1) := by decide +kernel
theorem dX6_opsOfAll_19 : decode cX6_opsOfAll 19 = .ok (.iadd, 1) := by decide +kernel
theorem dX6_opsOfAll_20 : decode cX6_opsOfAll 20 = .ok (.istore_n 1, 1) := by decide +kernel
theorem dX6_opsOfAll_21 : decode cX6_opsOfAll 21 = .ok (.iinc 2 1, 3) := by decide +kernel
theorem dX6_opsOfAll_24 : decode cX6_opsOfAll 24 = .ok (.goto (-20), 3) := by decide +kernel
theorem dX6_opsOfAll_27 : decode cX6_opsOfAll 27 = .ok (.iload_n 1, 1) := by decide +kernel
theorem dX6_opsOfAll_28 : decode cX6_opsOfAll 28 = .ok (.ireturn, 1) := by decide +kernel
theorem dX7_keptNumber_0 : decode cX7_keptNumber 0 = .ok (.iload_n 1, 1) := by decide +kernel
theorem dX7_keptNumber_1 : decode cX7_keptNumber 1 = .ok (.ifCond .lt 26, 3) := by decide +kernel
theorem dX7_keptNumber_4 : decode cX7_keptNumber 4 = .ok (.iload_n 1, 1) := by decide +kernel
theorem dX7_keptNumber_5 : decode cX7_keptNumber 5 = .ok (.bipush 100, 2) := by decide +kernel
theorem dX7_keptNumber_7 : decode cX7_keptNumber 7 = .ok (.if_icmp .ge 20, 3) := by decide +kernel
theorem dX7_keptNumber_10 : decode cX7_keptNumber 10 = .ok (.iload_n 1, 1) := by decide +kernel
theorem dX7_keptNumber_11 : decode cX7_keptNumber 11 = .ok (.aload_n 0, 1) := by decide +kernel
theorem dX7_keptNumber_12 : decode cX7_keptNumber 12 = .ok (.getfield 22, 3) := by decide +kernel
theorem dX7_keptNumber_15 : decode cX7_keptNumber 15 = .ok (.if_icmp .ge 12, 3) := by decide +kernel
theorem dX7_keptNumber_18 : decode cX7_keptNumber 18 = .ok (.aload_n 0, 1) := by decide +kernel
theorem dX7_keptNumber_19 : decode cX7_keptNumber 19 = .ok (.getfield 9, 3) := by decide +kernel
theorem dX7_keptNumber_22 : decode cX7_keptNumber 22 = .ok (.iload_n 1, 1) := by decide +kernel
theorem dX7_keptNumber_23 : decode cX7_keptNumber 23 = .ok (.iaload, 1) := by decide +kernel
theorem dX7_keptNumber_24 : decode cX7_keptNumber 24 = .ok (.goto 4, 3) := by decide +kernel
theorem dX7_keptNumber_27 : decode cX7_keptNumber 27 = .ok (.iconst (-1), 1) := by decide +kernel
theorem dX7_keptNumber_28 : decode cX7_keptNumber 28 = .ok (.ireturn, 1) := by decide +kernel
