theorem dX8_module_0 : decode cX8_module 0 = .ok (.iload_n 1, 1) := by decide +kernel
theorem dX8_module_1 : decode cX8_module 1 = .ok (.ifCond .eq 11, 3) := by decide +kernel
theorem dX8_module_4 : decode cX8_module 4 = .ok (.iload_n 1, 1) := by decide +kernel
theorem dX8_module_5 : decode cX8_module 5 = .ok (.iconst 1, 1) := by decide +kernel
theorem dX8_module_6 : decode cX8_module 6 = .ok (.if_icmp .eq 6, 3) := by decide +kernel
theorem dX8_module_9 : decode cX8_module 9 = .ok (.bipush (-2), 2) := by decide +kernel
theorem dX8_module_11 : decode cX8_module 11 = .ok (.ireturn, 1) := by decide +kernel
theorem dX8_module_12 : decode cX8_module 12 = .ok (.aload_n 0, 1) := by decide +kernel
theorem dX8_module_13 : decode cX8_module 13 = .ok (.getfield 10, 3) := by decide +kernel
theorem dX8_module_16 : decode cX8_module 16 = .ok (.getfield 68, 3) := by decide +kernel
theorem dX8_module_19 : decode cX8_module 19 = .ok (.bipush 12, 2) := by decide +kernel
theorem dX8_module_21 : decode cX8_module 21 = .ok (.if_icmp .lt 6, 3) := by decide +kernel
theorem dX8_module_24 : decode cX8_module 24 = .ok (.bipush (-4), 2) := by decide +kernel
theorem dX8_module_26 : decode cX8_module 26 = .ok (.ireturn, 1) := by decide +kernel
theorem dX8_module_27 : decode cX8_module 27 = .ok (.aload_n 0, 1) := by decide +kernel
theorem dX8_module_28 : decode cX8_module 28 = .ok (.iconst 0, 1) := by decide +kernel
theorem dX8_module_29 : decode cX8_module 29 = .ok (.putfield 64, 3) := by decide +kernel
theorem dX8_module_32 : decode cX8_module 32 = .ok (.aload_n 0, 1) := by decide +kernel
theorem dX8_module_33 : decode cX8_module 33 = .ok (.getfield 10, 3) := by decide +kernel
theorem dX8_module_36 : decode cX8_module 36 = .ok (.iload_n 1, 1) := by decide +kernel
theorem dX8_module_37 : decode cX8_module 37 = .ok (.invokevirtual 72, 3) := by decide +kernel
theorem dX8_module_40 : decode cX8_module 40 = .ok (.ireturn, 1) := by decide +kernel
theorem dX8_routine_0 : decode cX8_routine 0 = .ok (.aload_n 0, 1) := by decide +kernel
theorem dX8_routine_1 : decode cX8_routine 1 = .ok (.getfield 10, 3) := by decide +kernel
theorem dX8_routine_4 : decode cX8_routine 4 = .ok (.iload_n 1, 1) := by decide +kernel
theorem dX8_routine_5 : decode cX8_routine 5 = .ok (.invokevirtual 76, 3) := by decide +kernel
theorem dX8_routine_8 : decode cX8_routine 8 = .ok (.ifCond .eq 13, 3) := by decide +kernel
theorem dX8_routine_11 : decode cX8_routine 11 = .ok (.iload_n 2, 1) := by decide +kernel
theorem dX8_routine_12 : decode cX8_routine 12 = .ok (.ifCond .lt 9, 3) := by decide +kernel
theorem dX8_routine_15 : decode cX8_routine 15 = .ok (.iload_n 2, 1) := by decide +kernel
theorem dX8_routine_16 : decode cX8_routine 16 = .ok (.bipush 9, 2) := by decide +kernel
theorem dX8_routine_18 : decode cX8_routine 18 = .ok (.if_icmp .le 6, 3) := by decide +kernel
theorem dX8_routine_21 : decode cX8_routine 21 = .ok (.bipush (-2), 2) := by decide +kernel
theorem dX8_routine_23 : decode cX8_routine 23 = .ok (.ireturn, 1) := by decide +kernel
theorem dX8_routine_24 : decode cX8_routine 24 = .ok (.aload_n 0, 1) := by decide +kernel
theorem dX8_routine_25 : decode cX8_routine 25 = .ok (.getfield 10, 3) := by decide +kernel
theorem dX8_routine_28 : decode cX8_routine 28 = .ok (.getfield 80, 3) := by decide +kernel
theorem dX8_routine_31 : decode cX8_routine 31 = .ok (.bipush 30, 2) := by decide +kernel
theorem dX8_routine_33 : decode cX8_routine 33 = .ok (.if_icmp .lt 6, 3) := by decide +kernel
theorem dX8_routine_36 : decode cX8_routine 36 = .ok (.bipush (-4), 2) := by decide +kernel
theorem dX8_routine_38 : decode cX8_routine 38 = .ok (.ireturn, 1) := by decide +kernel
theorem dX8_routine_39 : decode cX8_routine 39 = .ok (.aload_n 0, 1) := by decide +kernel
theorem dX8_routine_40 : decode cX8_routine 40 = .ok (.iconst 0, 1) := by decide +kernel
theorem dX8_routine_41 : decode cX8_routine 41 = .ok (.putfield 64, 3) := by decide +kernel
theorem dX8_routine_44 : decode cX8_routine 44 = .ok (.aload_n 0, 1) := by decide +kernel
theorem dX8_routine_45 : decode cX8_routine 45 = .ok (.getfield 10, 3) := by decide +kernel
theorem dX8_routine_48 : decode cX8_routine 48 = .ok (.iload_n 1, 1) := by decide +kernel
theorem dX8_routine_49 : decode cX8_routine 49 = .ok (.iload_n 2, 1) := by decide +kernel
theorem dX8_routine_50 : decode cX8_routine 50 = .ok (.invokevirtual 83, 3) := by decide +kernel
theorem dX8_routine_53 : decode cX8_routine 53 = .ok (.ireturn, 1) := by decide +kernel
theorem dX8_op_0 : decode cX8_op 0 = .ok (.aload_n 0, 1) := by decide +kernel
theorem dX8_op_1 : decode cX8_op 1 = .ok (.getfield 10, 3) := by decide +kernel
theorem dX8_op_4 : decode cX8_op 4 = .ok (.iload_n 1, 1) := by decide +kernel
theorem dX8_op_5 : decode cX8_op 5 = .ok (.invokevirtual 87, 3) := by decide +kernel
theorem dX8_op_8 : decode cX8_op 8 = .ok (.ifCond .eq 16, 3) := by decide +kernel
theorem dX8_op_11 : decode cX8_op 11 = .ok (.aload_n 0, 1) := by decide +kernel
theorem dX8_op_12 : decode cX8_op 12 = .ok (.getfield 10, 3) := by decide +kernel
theorem dX8_op_15 : decode cX8_op 15 = .ok (.iload_n 1, 1) := by decide +kernel
theorem dX8_op_16 : decode cX8_op 16 = .ok (.iload_n 2, 1) := by decide +kernel
theorem dX8_op_17 : decode cX8_op 17 = .ok (.iload_n 3, 1) := by decide +kernel
theorem dX8_op_18 : decode cX8_op 18 = .ok (.invokevirtual 90, 3) := by decide +kernel
theorem dX8_op_21 : decode cX8_op 21 = .ok (.ifCond .ne 6, 3) := by decide +kernel
theorem dX8_op_24 : decode cX8_op 24 = .ok (.bipush (-2), 2) := by decide +kernel
theorem dX8_op_26 : decode cX8_op 26 = .ok (.ireturn, 1) := by decide +kernel
theorem dX8_op_27 : decode cX8_op 27 = .ok (.aload_n 0, 1) := by decide +kernel
theorem dX8_op_28 : decode cX8_op 28 = .ok (.getfield 10, 3) := by decide +kernel
theorem dX8_op_31 : decode cX8_op 31 = .ok (.getfield 94, 3) := by decide +kernel
theorem dX8_op_34 : decode cX8_op 34 = .ok (.iload_n 1, 1) := by decide +kernel
theorem dX8_op_35 : decode cX8_op 35 = .ok (.iaload, 1) := by decide +kernel
theorem dX8_op_36 : decode cX8_op 36 = .ok (.bipush 40, 2) := by decide +kernel
theorem dX8_op_38 : decode cX8_op 38 = .ok (.if_icmp .lt 6, 3) := by decide +kernel
theorem dX8_op_41 : decode cX8_op 41 = .ok (.bipush (-4), 2) := by decide +kernel
theorem dX8_op_43 : decode cX8_op 43 = .ok (.ireturn, 1) := by decide +kernel
theorem dX8_op_44 : decode cX8_op 44 = .ok (.aload_n 0, 1) := by decide +kernel
theorem dX8_op_45 : decode cX8_op 45 = .ok (.iconst 0, 1) := by decide +kernel
theorem dX8_op_46 : decode cX8_op 46 = .ok (.putfield 64, 3) := by decide +kernel
theorem dX8_op_49 : decode cX8_op 49 = .ok (.aload_n 0, 1) := by decide +kernel
theorem dX8_op_50 : decode cX8_op 50 = .ok (.getfield 10, 3) := by decide +kernel
theorem dX8_op_53 : decode cX8_op 53 = .ok (.iload_n 1, 1) := by decide +kernel
theorem dX8_op_54 : decode cX8_op 54 = .ok (.iload_n 2, 1) := by decide +kernel
theorem dX8_op_55 : decode cX8_op 55 = .ok (.iload_n 3, 1) := by decide +kernel
theorem dX8_op_56 : decode cX8_op 56 = .ok (.invokevirtual 98, 3) := by decide +kernel
theorem dX8_op_59 : decode cX8_op 59 = .ok (.ireturn, 1) := by decide +kernel
theorem dX8_drop_0 : decode cX8_drop 0 = .ok (.aload_n 0, 1) := by decide +kernel
theorem dX8_drop_1 : decode cX8_drop 1 = .ok (.getfield 10, 3) := by decide +kernel
theorem dX8_drop_4 : decode cX8_drop 4 = .ok (.iload_n 1, 1) := by decide +kernel
theorem dX8_drop_5 : decode cX8_drop 5 = .ok (.invokevirtual 87, 3) := by decide +kernel
theorem dX8_drop_8 : decode cX8_drop 8 = .ok (.ifCond .ne 6, 3) := by decide +kernel
theorem dX8_drop_11 : decode cX8_drop 11 = .ok (.bipush (-2), 2) := by decide +kernel
theorem dX8_drop_13 : decode cX8_drop 13 = .ok (.ireturn, 1) := by decide +kernel
theorem dX8_drop_14 : decode cX8_drop 14 = .ok (.aload_n 0, 1) := by decide +kernel
theorem dX8_drop_15 : decode cX8_drop 15 = .ok (.getfield 10, 3) := by decide +kernel
theorem dX8_drop_18 : decode cX8_drop 18 = .ok (.getfield 94, 3) := by decide +kernel
theorem dX8_drop_21 : decode cX8_drop 21 = .ok (.iload_n 1, 1) := by decide +kernel
theorem dX8_drop_22 : decode cX8_drop 22 = .ok (.iaload, 1) := by decide +kernel
theorem dX8_drop_23 : decode cX8_drop 23 = .ok (.ifCond .gt 5, 3) := by decide +kernel
theorem dX8_drop_26 : decode cX8_drop 26 = .ok (.iconst (-1), 1) := by decide +kernel
theorem dX8_drop_27 : decode cX8_drop 27 = .ok (.ireturn, 1) := by decide +kernel
theorem dX8_drop_28 : decode cX8_drop 28 = .ok (.aload_n 0, 1) := by decide +kernel
theorem dX8_drop_29 : decode cX8_drop 29 = .ok (.iconst 0, 1) := by decide +kernel
theorem dX8_drop_30 : decode cX8_drop 30 = .ok (.putfield 64, 3) := by decide +kernel
theorem dX8_drop_33 : decode cX8_drop 33 = .ok (.aload_n 0, 1) := by decide +kernel
theorem dX8_drop_34 : decode cX8_drop 34 = .ok (.getfield 10, 3) := by decide +kernel
theorem dX8_drop_37 : decode cX8_drop 37 = .ok (.getfield 94, 3) := by decide +kernel
theorem dX8_drop_40 : decode cX8_drop 40 = .ok (.iload_n 1, 1) := by decide +kernel
theorem dX8_drop_41 : decode cX8_drop 41 = .ok (.dup2, 1) := by decide +kernel
theorem dX8_drop_42 : decode cX8_drop 42 = .ok (.iaload, 1) := by decide +kernel
theorem dX8_drop_43 : decode cX8_drop 43 = .ok (.iconst 1, 1) := by decide +kernel
theorem dX8_drop_44 : decode cX8_drop 44 = .ok (.isub, 1) := by decide +kernel
theorem dX8_drop_45 : decode cX8_drop 45 = .ok (.iastore, 1) := by decide +kernel
theorem dX8_drop_46 : decode cX8_drop 46 = .ok (.aload_n 0, 1) := by decide +kernel
theorem dX8_drop_47 : decode cX8_drop 47 = .ok (.getfield 10, 3) := by decide +kernel
theorem dX8_drop_50 : decode cX8_drop 50 = .ok (.getfield 94, 3) := by decide +kernel
theorem dX8_drop_53 : decode cX8_drop 53 = .ok (.iload_n 1, 1) := by decide +kernel
theorem dX8_drop_54 : decode cX8_drop 54 = .ok (.iaload, 1) := by decide +kernel
theorem dX8_drop_55 : decode cX8_drop 55 = .ok (.ireturn, 1) := by decide +kernel
theorem dX8_limit_0 : decode cX8_limit 0 = .ok (.iload_n 1, 1) := by decide +kernel
theorem dX8_limit_1 : decode cX8_limit 1 = .ok (.ifCond .lt 8, 3) := by decide +kernel
theorem dX8_limit_4 : decode cX8_limit 4 = .ok (.iload_n 1, 1) := by decide +kernel
theorem dX8_limit_5 : decode cX8_limit 5 = .ok (.iconst 5, 1) := by decide +kernel
theorem dX8_limit_6 : decode cX8_limit 6 = .ok (.if_icmp .lt 6, 3) := by decide +kernel
theorem dX8_limit_9 : decode cX8_limit 9 = .ok (.bipush (-2), 2) := by decide +kernel
theorem dX8_limit_11 : decode cX8_limit 11 = .ok (.ireturn, 1) := by decide +kernel
theorem dX8_limit_12 : decode cX8_limit 12 = .ok (.iload_n 2, 1) := by decide +kernel
theorem dX8_limit_13 : decode cX8_limit 13 = .ok (.getstatic 102, 3) := by decide +kernel
theorem dX8_limit_16 : decode cX8_limit 16 = .ok (.iload_n 1, 1) := by decide +kernel
theorem dX8_limit_17 : decode cX8_limit 17 = .ok (.iaload, 1) := by decide +kernel
theorem dX8_limit_18 : decode cX8_limit 18 = .ok (.if_icmp .lt 12, 3) := by decide +kernel
theorem dX8_limit_21 : decode cX8_limit 21 = .ok (.iload_n 2, 1) := by decide +kernel
theorem dX8_limit_22 : decode cX8_limit 22 = .ok (.getstatic 105, 3) := by decide +kernel
theorem dX8_limit_25 : decode cX8_limit 25 = .ok (.iload_n 1, 1) := by decide +kernel
theorem dX8_limit_26 : decode cX8_limit 26 = .ok (.iaload, 1) := by decide +kernel
theorem dX8_limit_27 : decode cX8_limit 27 = .ok (.if_icmp .le 6, 3) := by decide +kernel
theorem dX8_limit_30 : decode cX8_limit 30 = .ok (.bipush (-2), 2) := by decide +kernel
theorem dX8_limit_32 : decode cX8_limit 32 = .ok (.ireturn, 1) := by decide +kernel
theorem dX8_limit_33 : decode cX8_limit 33 = .ok (.aload_n 0, 1) := by decide +kernel
theorem dX8_limit_34 : decode cX8_limit 34 = .ok (.iconst 0, 1) := by decide +kernel
theorem dX8_limit_35 : decode cX8_limit 35 = .ok (.putfield 64, 3) := by decide +kernel
theorem dX8_limit_38 : decode cX8_limit 38 = .ok (.aload_n 0, 1) := by decide +kernel
theorem dX8_limit_39 : decode cX8_limit 39 = .ok (.getfield 10, 3) := by decide +kernel
theorem dX8_limit_42 : decode cX8_limit 42 = .ok (.getfield 108, 3) := by decide +kernel
theorem dX8_limit_45 : decode cX8_limit 45 = .ok (.iload_n 1, 1) := by decide +kernel
theorem dX8_limit_46 : decode cX8_limit 46 = .ok (.iaload, 1) := by decide +kernel
theorem dX8_limit_47 : decode cX8_limit 47 = .ok (.istore_n 3, 1) := by decide +kernel
theorem dX8_limit_48 : decode cX8_limit 48 = .ok (.aload_n 0, 1) := by decide +kernel
theorem dX8_limit_49 : decode cX8_limit 49 = .ok (.getfield 10, 3) := by decide +kernel
theorem dX8_limit_52 : decode cX8_limit 52 = .ok (.getfield 108, 3) := by decide +kernel
theorem dX8_limit_55 : decode cX8_limit 55 = .ok (.iload_n 1, 1) := by decide +kernel
theorem dX8_limit_56 : decode cX8_limit 56 = .ok (.iload_n 2, 1) := by decide +kernel
theorem dX8_limit_57 : decode cX8_limit 57 = .ok (.iastore, 1) := by decide +kernel
theorem dX8_limit_58 : decode cX8_limit 58 = .ok (.iload_n 3, 1) := by decide +kernel
theorem dX8_limit_59 : decode cX8_limit 59 = .ok (.ireturn, 1) := by decide +kernel
theorem dX8_link_0 : decode cX8_link 0 = .ok (.aload_n 0, 1) := by decide +kernel
theorem dX8_link_1 : decode cX8_link 1 = .ok (.aload_n 0, 1) := by decide +kernel
theorem dX8_link_2 : decode cX8_link 2 = .ok (.getfield 42, 3) := by decide +kernel
theorem dX8_link_5 : decode cX8_link 5 = .ok (.invokevirtual 111, 3) := by decide +kernel
theorem dX8_link_8 : decode cX8_link 8 = .ok (.putfield 64, 3) := by decide +kernel
theorem dX8_link_11 : decode cX8_link 11 = .ok (.aload_n 0, 1) := by decide +kernel
theorem dX8_link_12 : decode cX8_link 12 = .ok (.getfield 64, 3) := by decide +kernel
theorem dX8_link_15 : decode cX8_link 15 = .ok (.ifCond .eq 7, 3) := by decide +kernel
theorem dX8_link_18 : decode cX8_link 18 = .ok (.iconst 1, 1) := by decide +kernel
theorem dX8_link_19 : decode cX8_link 19 = .ok (.goto 4, 3) := by decide +kernel
theorem dX8_link_22 : decode cX8_link 22 = .ok (.iconst 0, 1) := by decide +kernel
theorem dX8_link_23 : decode cX8_link 23 = .ok (.ireturn, 1) := by decide +kernel
theorem dX8_fault_0 : decode cX8_fault 0 = .ok (.iload_n 1, 1) := by decide +kernel
theorem dX8_fault_1 : decode cX8_fault 1 = .ok (.tableswitch 51 0 2 #[27, 35, 43], 27) := by decide +kernel
theorem dX8_fault_28 : decode cX8_fault 28 = .ok (.aload_n 0, 1) := by decide +kernel
theorem dX8_fault_29 : decode cX8_fault 29 = .ok (.getfield 42, 3) := by decide +kernel
theorem dX8_fault_32 : decode cX8_fault 32 = .ok (.getfield 115, 3) := by decide +kernel
theorem dX8_fault_35 : decode cX8_fault 35 = .ok (.ireturn, 1) := by decide +kernel
theorem dX8_fault_36 : decode cX8_fault 36 = .ok (.aload_n 0, 1) := by decide +kernel
theorem dX8_fault_37 : decode cX8_fault 37 = .ok (.getfield 42, 3) := by decide +kernel
theorem dX8_fault_40 : decode cX8_fault 40 = .ok (.getfield 118, 3) := by decide +kernel
theorem dX8_fault_43 : decode cX8_fault 43 = .ok (.ireturn, 1) := by decide +kernel
theorem dX8_fault_44 : decode cX8_fault 44 = .ok (.aload_n 0, 1) := by decide +kernel
theorem dX8_fault_45 : decode cX8_fault 45 = .ok (.getfield 42, 3) := by decide +kernel
theorem dX8_fault_48 : decode cX8_fault 48 = .ok (.getfield 121, 3) := by decide +kernel
theorem dX8_fault_51 : decode cX8_fault 51 = .ok (.ireturn, 1) := by decide +kernel
theorem dX8_fault_52 : decode cX8_fault 52 = .ok (.bipush (-2), 2) := by decide +kernel
theorem dX8_fault_54 : decode cX8_fault 54 = .ok (.ireturn, 1) := by decide +kernel
theorem dX8_place_0 : decode cX8_place 0 = .ok (.aload_n 0, 1) := by decide +kernel
theorem dX8_place_1 : decode cX8_place 1 = .ok (.getfield 10, 3) := by decide +kernel
theorem dX8_place_4 : decode cX8_place 4 = .ok (.iload_n 1, 1) := by decide +kernel
theorem dX8_place_5 : decode cX8_place 5 = .ok (.invokevirtual 87, 3) := by decide +kernel
theorem dX8_place_8 : decode cX8_place 8 = .ok (.ifCond .eq 12, 3) := by decide +kernel
theorem dX8_place_11 : decode cX8_place 11 = .ok (.iload_n 2, 1) := by decide +kernel
theorem dX8_place_12 : decode cX8_place 12 = .ok (.ifCond .lt 8, 3) := by decide +kernel
theorem dX8_place_15 : decode cX8_place 15 = .ok (.iload_n 2, 1) := by decide +kernel
theorem dX8_place_16 : decode cX8_place 16 = .ok (.iconst 5, 1) := by decide +kernel
theorem dX8_place_17 : decode cX8_place 17 = .ok (.if_icmp .le 6, 3) := by decide +kernel
theorem dX8_place_20 : decode cX8_place 20 = .ok (.bipush (-2), 2) := by decide +kernel
theorem dX8_place_22 : decode cX8_place 22 = .ok (.ireturn, 1) := by decide +kernel
theorem dX8_place_23 : decode cX8_place 23 = .ok (.aload_n 0, 1) := by decide +kernel
theorem dX8_place_24 : decode cX8_place 24 = .ok (.getfield 64, 3) := by decide +kernel
theorem dX8_place_27 : decode cX8_place 27 = .ok (.ifCond .ne 6, 3) := by decide +kernel
theorem dX8_place_30 : decode cX8_place 30 = .ok (.bipush (-3), 2) := by decide +kernel
theorem dX8_place_32 : decode cX8_place 32 = .ok (.ireturn, 1) := by decide +kernel
theorem dX8_place_33 : decode cX8_place 33 = .ok (.iload_n 2, 1) := by decide +kernel
theorem dX8_place_34 : decode cX8_place 34 = .ok (.tableswitch 84 0 4 #[34, 44, 54, 64, 74], 34) := by decide +kernel
theorem dX8_place_68 : decode cX8_place 68 = .ok (.aload_n 0, 1) := by decide +kernel
theorem dX8_place_69 : decode cX8_place 69 = .ok (.getfield 26, 3) := by decide +kernel
theorem dX8_place_72 : decode cX8_place 72 = .ok (.getfield 124, 3) := by decide +kernel
theorem dX8_place_75 : decode cX8_place 75 = .ok (.iload_n 1, 1) := by decide +kernel
theorem dX8_place_76 : decode cX8_place 76 = .ok (.iaload, 1) := by decide +kernel
theorem dX8_place_77 : decode cX8_place 77 = .ok (.ireturn, 1) := by decide +kernel
theorem dX8_place_78 : decode cX8_place 78 = .ok (.aload_n 0, 1) := by decide +kernel
theorem dX8_place_79 : decode cX8_place 79 = .ok (.getfield 26, 3) := by decide +kernel
theorem dX8_place_82 : decode cX8_place 82 = .ok (.getfield 127, 3) := by decide +kernel
theorem dX8_place_85 : decode cX8_place 85 = .ok (.iload_n 1, 1) := by decide +kernel
theorem dX8_place_86 : decode cX8_place 86 = .ok (.iaload, 1) := by decide +kernel
theorem dX8_place_87 : decode cX8_place 87 = .ok (.ireturn, 1) := by decide +kernel
theorem dX8_place_88 : decode cX8_place 88 = .ok (.aload_n 0, 1) := by decide +kernel
theorem dX8_place_89 : decode cX8_place 89 = .ok (.getfield 26, 3) := by decide +kernel
theorem dX8_place_92 : decode cX8_place 92 = .ok (.getfield 130, 3) := by decide +kernel
theorem dX8_place_95 : decode cX8_place 95 = .ok (.iload_n 1, 1) := by decide +kernel
theorem dX8_place_96 : decode cX8_place 96 = .ok (.iaload, 1) := by decide +kernel
theorem dX8_place_97 : decode cX8_place 97 = .ok (.ireturn, 1) := by decide +kernel
theorem dX8_place_98 : decode cX8_place 98 = .ok (.aload_n 0, 1) := by decide +kernel
theorem dX8_place_99 : decode cX8_place 99 = .ok (.getfield 26, 3) := by decide +kernel
theorem dX8_place_102 : decode cX8_place 102 = .ok (.getfield 133, 3) := by decide +kernel
theorem dX8_place_105 : decode cX8_place 105 = .ok (.iload_n 1, 1) := by decide +kernel
theorem dX8_place_106 : decode cX8_place 106 = .ok (.iaload, 1) := by decide +kernel
theorem dX8_place_107 : decode cX8_place 107 = .ok (.ireturn, 1) := by decide +kernel
theorem dX8_place_108 : decode cX8_place 108 = .ok (.aload_n 0, 1) := by decide +kernel
theorem dX8_place_109 : decode cX8_place 109 = .ok (.getfield 26, 3) := by decide +kernel
theorem dX8_place_112 : decode cX8_place 112 = .ok (.getfield 136, 3) := by decide +kernel
theorem dX8_place_115 : decode cX8_place 115 = .ok (.iload_n 1, 1) := by decide +kernel
theorem dX8_place_116 : decode cX8_place 116 = .ok (.iaload, 1) := by decide +kernel
theorem dX8_place_117 : decode cX8_place 117 = .ok (.ireturn, 1) := by decide +kernel
theorem dX8_place_118 : decode cX8_place 118 = .ok (.aload_n 0, 1) := by decide +kernel
theorem dX8_place_119 : decode cX8_place 119 = .ok (.getfield 26, 3) := by decide +kernel
theorem dX8_place_122 : decode cX8_place 122 = .ok (.getfield 139, 3) := by decide +kernel
theorem dX8_place_125 : decode cX8_place 125 = .ok (.iload_n 1, 1) := by decide +kernel
theorem dX8_place_126 : decode cX8_place 126 = .ok (.iaload, 1) := by decide +kernel
theorem dX8_place_127 : decode cX8_place 127 = .ok (.ireturn, 1) := by decide +kernel
theorem dX8_image_0 : decode cX8_image 0 = .ok (.iload_n 1, 1) := by decide +kernel
theorem dX8_image_1 : decode cX8_image 1 = .ok (.iconst (-1), 1) := by decide +kernel
theorem dX8_image_2 : decode cX8_image 2 = .ok (.if_icmp .lt 16, 3) := by decide +kernel
theorem dX8_image_5 : decode cX8_image 5 = .ok (.iload_n 1, 1) := by decide +kernel
theorem dX8_image_6 : decode cX8_image 6 = .ok (.aload_n 0, 1) := by decide +kernel
theorem dX8_image_7 : decode cX8_image 7 = .ok (.getfield 10, 3) := by decide +kernel
theorem dX8_image_10 : decode cX8_image 10 = .ok (.getfield 108, 3) := by decide +kernel
theorem dX8_image_13 : decode cX8_image 13 = .ok (.iconst 0, 1) := by decide +kernel
theorem dX8_image_14 : decode cX8_image 14 = .ok (.iaload, 1) := by decide +kernel
theorem dX8_image_15 : decode cX8_image 15 = .ok (.if_icmp .lt 6, 3) := by decide +kernel
theorem dX8_image_18 : decode cX8_image 18 = .ok (.bipush (-2), 2) := by decide +kernel
theorem dX8_image_20 : decode cX8_image 20 = .ok (.ireturn, 1) := by decide +kernel
theorem dX8_image_21 : decode cX8_image 21 = .ok (.aload_n 0, 1) := by decide +kernel
theorem dX8_image_22 : decode cX8_image 22 = .ok (.getfield 64, 3) := by decide +kernel
theorem dX8_image_25 : decode cX8_image 25 = .ok (.ifCond .ne 6, 3) := by decide +kernel
theorem dX8_image_28 : decode cX8_image 28 = .ok (.bipush (-3), 2) := by decide +kernel
theorem dX8_image_30 : decode cX8_image 30 = .ok (.ireturn, 1) := by decide +kernel
theorem dX8_image_31 : decode cX8_image 31 = .ok (.aload_n 0, 1) := by decide +kernel
theorem dX8_image_32 : decode cX8_image 32 = .ok (.getfield 33, 3) := by decide +kernel
theorem dX8_image_35 : decode cX8_image 35 = .ok (.iload_n 1, 1) := by decide +kernel
theorem dX8_image_36 : decode cX8_image 36 = .ok (.iload_n 2, 1) := by decide +kernel
theorem dX8_image_37 : decode cX8_image 37 = .ok (.invokevirtual 142, 3) := by decide +kernel
theorem dX8_image_40 : decode cX8_image 40 = .ok (.ireturn, 1) := by decide +kernel
theorem dX8_count_0 : decode cX8_count 0 = .ok (.iload_n 1, 1) := by decide +kernel
theorem dX8_count_1 : decode cX8_count 1 = .ok (.ifCond .lt 9, 3) := by decide +kernel
theorem dX8_count_4 : decode cX8_count 4 = .ok (.iload_n 1, 1) := by decide +kernel
theorem dX8_count_5 : decode cX8_count 5 = .ok (.bipush 7, 2) := by decide +kernel
theorem dX8_count_7 : decode cX8_count 7 = .ok (.if_icmp .le 6, 3) := by decide +kernel
theorem dX8_count_10 : decode cX8_count 10 = .ok (.bipush (-2), 2) := by decide +kernel
theorem dX8_count_12 : decode cX8_count 12 = .ok (.ireturn, 1) := by decide +kernel
theorem dX8_count_13 : decode cX8_count 13 = .ok (.iload_n 1, 1) := by decide +kernel
theorem dX8_count_14 : decode cX8_count 14 = .ok (.iconst 2, 1) := by decide +kernel
theorem dX8_count_15 : decode cX8_count 15 = .ok (.if_icmp .le 13, 3) := by decide +kernel
theorem dX8_count_18 : decode cX8_count 18 = .ok (.aload_n 0, 1) := by decide +kernel
theorem dX8_count_19 : decode cX8_count 19 = .ok (.getfield 64, 3) := by decide +kernel
theorem dX8_count_22 : decode cX8_count 22 = .ok (.ifCond .ne 6, 3) := by decide +kernel
theorem dX8_count_25 : decode cX8_count 25 = .ok (.bipush (-3), 2) := by decide +kernel
theorem dX8_count_27 : decode cX8_count 27 = .ok (.ireturn, 1) := by decide +kernel
theorem dX8_count_28 : decode cX8_count 28 = .ok (.iload_n 1, 1) := by decide +kernel
theorem dX8_count_29 : decode cX8_count 29 = .ok (.tableswitch 99 0 6 #[43, 51, 59, 67, 75, 83, 91], 43) := by decide +kernel
theorem dX8_count_72 : decode cX8_count 72 = .ok (.aload_n 0, 1) := by decide +kernel
theorem dX8_count_73 : decode cX8_count 73 = .ok (.getfield 10, 3) := by decide +kernel
theorem dX8_count_76 : decode cX8_count 76 = .ok (.getfield 68, 3) := by decide +kernel
theorem dX8_count_79 : decode cX8_count 79 = .ok (.ireturn, 1) := by decide +kernel
theorem dX8_count_80 : decode cX8_count 80 = .ok (.aload_n 0, 1) := by decide +kernel
theorem dX8_count_81 : decode cX8_count 81 = .ok (.getfield 10, 3) := by decide +kernel
theorem dX8_count_84 : decode cX8_count 84 = .ok (.getfield 80, 3) := by decide +kernel
theorem dX8_count_87 : decode cX8_count 87 = .ok (.ireturn, 1) := by decide +kernel
theorem dX8_count_88 : decode cX8_count 88 = .ok (.aload_n 0, 1) := by decide +kernel
theorem dX8_count_89 : decode cX8_count 89 = .ok (.getfield 10, 3) := by decide +kernel
theorem dX8_count_92 : decode cX8_count 92 = .ok (.invokevirtual 145, 3) := by decide +kernel
theorem dX8_count_95 : decode cX8_count 95 = .ok (.ireturn, 1) := by decide +kernel
theorem dX8_count_96 : decode cX8_count 96 = .ok (.aload_n 0, 1) := by decide +kernel
theorem dX8_count_97 : decode cX8_count 97 = .ok (.getfield 26, 3) := by decide +kernel
theorem dX8_count_100 : decode cX8_count 100 = .ok (.getfield 149, 3) := by decide +kernel
theorem dX8_count_103 : decode cX8_count 103 = .ok (.ireturn, 1) := by decide +kernel
theorem dX8_count_104 : decode cX8_count 104 = .ok (.aload_n 0, 1) := by decide +kernel
theorem dX8_count_105 : decode cX8_count 105 = .ok (.getfield 26, 3) := by decide +kernel
theorem dX8_count_108 : decode cX8_count 108 = .ok (.getfield 152, 3) := by decide +kernel
theorem dX8_count_111 : decode cX8_count 111 = .ok (.ireturn, 1) := by decide +kernel
theorem dX8_count_112 : decode cX8_count 112 = .ok (.aload_n 0, 1) := by decide +kernel
theorem dX8_count_113 : decode cX8_count 113 = .ok (.getfield 33, 3) := by decide +kernel
theorem dX8_count_116 : decode cX8_count 116 = .ok (.invokevirtual 155, 3) := by decide +kernel
theorem dX8_count_119 : decode cX8_count 119 = .ok (.ireturn, 1) := by decide +kernel
theorem dX8_count_120 : decode cX8_count 120 = .ok (.aload_n 0, 1) := by decide +kernel
theorem dX8_count_121 : decode cX8_count 121 = .ok (.getfield 26, 3) := by decide +kernel
theorem dX8_count_124 : decode cX8_count 124 = .ok (.getfield 158, 3) := by decide +kernel
theorem dX8_count_127 : decode cX8_count 127 = .ok (.ireturn, 1) := by decide +kernel
theorem dX8_count_128 : decode cX8_count 128 = .ok (.aload_n 0, 1) := by decide +kernel
theorem dX8_count_129 : decode cX8_count 129 = .ok (.getfield 26, 3) := by decide +kernel
theorem dX8_count_132 : decode cX8_count 132 = .ok (.getfield 161, 3) := by decide +kernel
theorem dX8_count_135 : decode cX8_count 135 = .ok (.ireturn, 1) := by decide +kernel
theorem dX8_leads_0 : decode cX8_leads 0 = .ok (.aload_n 0, 1) := by decide +kernel
theorem dX8_leads_1 : decode cX8_leads 1 = .ok (.getfield 10, 3) := by decide +kernel
theorem dX8_leads_4 : decode cX8_leads 4 = .ok (.iload_n 1, 1) := by decide +kernel
theorem dX8_leads_5 : decode cX8_leads 5 = .ok (.invokevirtual 87, 3) := by decide +kernel
theorem dX8_leads_8 : decode cX8_leads 8 = .ok (.ifCond .eq 14, 3) := by decide +kernel
theorem dX8_leads_11 : decode cX8_leads 11 = .ok (.aload_n 0, 1) := by decide +kernel
theorem dX8_leads_12 : decode cX8_leads 12 = .ok (.getfield 10, 3) := by decide +kernel
theorem dX8_leads_15 : decode cX8_leads 15 = .ok (.iload_n 2, 1) := by decide +kernel
theorem dX8_leads_16 : decode cX8_leads 16 = .ok (.invokevirtual 87, 3) := by decide +kernel
theorem dX8_leads_19 : decode cX8_leads 19 = .ok (.ifCond .ne 6, 3) := by decide +kernel
theorem dX8_leads_22 : decode cX8_leads 22 = .ok (.bipush (-2), 2) := by decide +kernel
theorem dX8_leads_24 : decode cX8_leads 24 = .ok (.ireturn, 1) := by decide +kernel
theorem dX8_leads_25 : decode cX8_leads 25 = .ok (.aload_n 0, 1) := by decide +kernel
theorem dX8_leads_26 : decode cX8_leads 26 = .ok (.getfield 19, 3) := by decide +kernel
theorem dX8_leads_29 : decode cX8_leads 29 = .ok (.aload_n 0, 1) := by decide +kernel
theorem dX8_leads_30 : decode cX8_leads 30 = .ok (.getfield 10, 3) := by decide +kernel
theorem dX8_leads_33 : decode cX8_leads 33 = .ok (.invokevirtual 164, 3) := by decide +kernel
theorem dX8_leads_36 : decode cX8_leads 36 = .ok (.aload_n 0, 1) := by decide +kernel
theorem dX8_leads_37 : decode cX8_leads 37 = .ok (.getfield 19, 3) := by decide +kernel
theorem dX8_leads_40 : decode cX8_leads 40 = .ok (.iload_n 1, 1) := by decide +kernel
theorem dX8_leads_41 : decode cX8_leads 41 = .ok (.iload_n 2, 1) := by decide +kernel
theorem dX8_leads_42 : decode cX8_leads 42 = .ok (.invokevirtual 167, 3) := by decide +kernel
theorem dX8_leads_45 : decode cX8_leads 45 = .ok (.ifCond .eq 7, 3) := by decide +kernel
theorem dX8_leads_48 : decode cX8_leads 48 = .ok (.iconst 1, 1) := by decide +kernel
theorem dX8_leads_49 : decode cX8_leads 49 = .ok (.goto 4, 3) := by decide +kernel
theorem dX8_leads_52 : decode cX8_leads 52 = .ok (.iconst 0, 1) := by decide +kernel
theorem dX8_leads_53 : decode cX8_leads 53 = .ok (.ireturn, 1) := by decide +kernel
theorem dX8_mayRun_0 : decode cX8_mayRun 0 = .ok (.aload_n 0, 1) := by decide +kernel
theorem dX8_mayRun_1 : decode cX8_mayRun 1 = .ok (.getfield 10, 3) := by decide +kernel
theorem dX8_mayRun_4 : decode cX8_mayRun 4 = .ok (.iload_n 1, 1) := by decide +kernel
theorem dX8_mayRun_5 : decode cX8_mayRun 5 = .ok (.invokevirtual 87, 3) := by decide +kernel
theorem dX8_mayRun_8 : decode cX8_mayRun 8 = .ok (.ifCond .eq 30, 3) := by decide +kernel
theorem dX8_mayRun_11 : decode cX8_mayRun 11 = .ok (.iload_n 2, 1) := by decide +kernel
theorem dX8_mayRun_12 : decode cX8_mayRun 12 = .ok (.ifCond .lt 26, 3) := by decide +kernel
theorem dX8_mayRun_15 : decode cX8_mayRun 15 = .ok (.iload_n 2, 1) := by decide +kernel
theorem dX8_mayRun_16 : decode cX8_mayRun 16 = .ok (.sipush 255, 3) := by decide +kernel
theorem dX8_mayRun_19 : decode cX8_mayRun 19 = .ok (.if_icmp .gt 19, 3) := by decide +kernel
theorem dX8_mayRun_22 : decode cX8_mayRun 22 = .ok (.iload_n 3, 1) := by decide +kernel
theorem dX8_mayRun_23 : decode cX8_mayRun 23 = .ok (.iconst 1, 1) := by decide +kernel
theorem dX8_mayRun_24 : decode cX8_mayRun 24 = .ok (.if_icmp .lt 14, 3) := by decide +kernel
theorem dX8_mayRun_27 : decode cX8_mayRun 27 = .ok (.iload_n 3, 1) := by decide +kernel
theorem dX8_mayRun_28 : decode cX8_mayRun 28 = .ok (.sipush 3000, 3) := by decide +kernel
theorem dX8_mayRun_31 : decode cX8_mayRun 31 = .ok (.if_icmp .gt 7, 3) := by decide +kernel
theorem dX8_mayRun_34 : decode cX8_mayRun 34 = .ok (.iconst 1, 1) := by decide +kernel
theorem dX8_mayRun_35 : decode cX8_mayRun 35 = .ok (.goto 4, 3) := by decide +kernel
theorem dX8_mayRun_38 : decode cX8_mayRun 38 = .ok (.iconst 0, 1) := by decide +kernel
theorem dX8_mayRun_39 : decode cX8_mayRun 39 = .ok (.ireturn, 1) := by decide +kernel
theorem dX8_run_0 : decode cX8_run 0 = .ok (.aload_n 0, 1) := by decide +kernel
theorem dX8_run_1 : decode cX8_run 1 = .ok (.iload_n 1, 1) := by decide +kernel
theorem dX8_run_2 : decode cX8_run 2 = .ok (.iload_n 2, 1) := by decide +kernel
theorem dX8_run_3 : decode cX8_run 3 = .ok (.iload_n 3, 1) := by decide +kernel
theorem dX8_run_4 : decode cX8_run 4 = .ok (.invokevirtual 171, 3) := by decide +kernel
theorem dX8_run_7 : decode cX8_run 7 = .ok (.ifCond .ne 6, 3) := by decide +kernel
theorem dX8_run_10 : decode cX8_run 10 = .ok (.bipush (-2), 2) := by decide +kernel
theorem dX8_run_12 : decode cX8_run 12 = .ok (.ireturn, 1) := by decide +kernel
theorem dX8_run_13 : decode cX8_run 13 = .ok (.aload_n 0, 1) := by decide +kernel
theorem dX8_run_14 : decode cX8_run 14 = .ok (.getfield 64, 3) := by decide +kernel
theorem dX8_run_17 : decode cX8_run 17 = .ok (.ifCond .ne 6, 3) := by decide +kernel
theorem dX8_run_20 : decode cX8_run 20 = .ok (.bipush (-3), 2) := by decide +kernel
theorem dX8_run_22 : decode cX8_run 22 = .ok (.ireturn, 1) := by decide +kernel
theorem dX8_run_23 : decode cX8_run 23 = .ok (.aload_n 0, 1) := by decide +kernel
theorem dX8_run_24 : decode cX8_run 24 = .ok (.getfield 26, 3) := by decide +kernel
theorem dX8_run_27 : decode cX8_run 27 = .ok (.getfield 124, 3) := by decide +kernel
theorem dX8_run_30 : decode cX8_run 30 = .ok (.iload_n 1, 1) := by decide +kernel
theorem dX8_run_31 : decode cX8_run 31 = .ok (.iaload, 1) := by decide +kernel
theorem dX8_run_32 : decode cX8_run 32 = .ok (.iconst 0, 1) := by decide +kernel
theorem dX8_run_33 : decode cX8_run 33 = .ok (.invokestatic 174, 3) := by decide +kernel
theorem dX8_run_36 : decode cX8_run 36 = .ok (.istore 4, 2) := by decide +kernel
theorem dX8_run_38 : decode cX8_run 38 = .ok (.aload_n 0, 1) := by decide +kernel
theorem dX8_run_39 : decode cX8_run 39 = .ok (.getfield 51, 3) := by decide +kernel
theorem dX8_run_42 : decode cX8_run 42 = .ok (.iload 4, 2) := by decide +kernel
theorem dX8_run_44 : decode cX8_run 44 = .ok (.aload_n 0, 1) := by decide +kernel
theorem dX8_run_45 : decode cX8_run 45 = .ok (.getfield 26, 3) := by decide +kernel
theorem dX8_run_48 : decode cX8_run 48 = .ok (.getfield 127, 3) := by decide +kernel
theorem dX8_run_51 : decode cX8_run 51 = .ok (.iload_n 1, 1) := by decide +kernel
theorem dX8_run_52 : decode cX8_run 52 = .ok (.iaload, 1) := by decide +kernel
theorem dX8_run_53 : decode cX8_run 53 = .ok (.iload_n 2, 1) := by decide +kernel
theorem dX8_run_54 : decode cX8_run 54 = .ok (.iload_n 3, 1) := by decide +kernel
theorem dX8_run_55 : decode cX8_run 55 = .ok (.invokevirtual 179, 3) := by decide +kernel
theorem dX8_run_58 : decode cX8_run 58 = .ok (.ireturn, 1) := by decide +kernel
theorem dX8_flat_0 : decode cX8_flat 0 = .ok (.aload_n 0, 1) := by decide +kernel
theorem dX8_flat_1 : decode cX8_flat 1 = .ok (.iload_n 1, 1) := by decide +kernel
theorem dX8_flat_2 : decode cX8_flat 2 = .ok (.iload_n 2, 1) := by decide +kernel
theorem dX8_flat_3 : decode cX8_flat 3 = .ok (.iload_n 3, 1) := by decide +kernel
theorem dX8_flat_4 : decode cX8_flat 4 = .ok (.invokevirtual 171, 3) := by decide +kernel
theorem dX8_flat_7 : decode cX8_flat 7 = .ok (.ifCond .ne 6, 3) := by decide +kernel
theorem dX8_flat_10 : decode cX8_flat 10 = .ok (.bipush (-2), 2) := by decide +kernel
theorem dX8_flat_12 : decode cX8_flat 12 = .ok (.ireturn, 1) := by decide +kernel
theorem dX8_flat_13 : decode cX8_flat 13 = .ok (.aload_n 0, 1) := by decide +kernel
theorem dX8_flat_14 : decode cX8_flat 14 = .ok (.getfield 60, 3) := by decide +kernel
theorem dX8_flat_17 : decode cX8_flat 17 = .ok (.iload_n 1, 1) := by decide +kernel
theorem dX8_flat_18 : decode cX8_flat 18 = .ok (.iload_n 2, 1) := by decide +kernel
theorem dX8_flat_19 : decode cX8_flat 19 = .ok (.iload_n 3, 1) := by decide +kernel
theorem dX8_flat_20 : decode cX8_flat 20 = .ok (.invokevirtual 183, 3) := by decide +kernel
theorem dX8_flat_23 : decode cX8_flat 23 = .ok (.ireturn, 1) := by decide +kernel
theorem dX8_reportOf_0 : decode cX8_reportOf 0 = .ok (.iload_n 1, 1) := by decide +kernel
theorem dX8_reportOf_1 : decode cX8_reportOf 1 = .ok (.ifCond .ne 13, 3) := by decide +kernel
theorem dX8_reportOf_4 : decode cX8_reportOf 4 = .ok (.aload_n 0, 1) := by decide +kernel
theorem dX8_reportOf_5 : decode cX8_reportOf 5 = .ok (.getfield 51, 3) := by decide +kernel
theorem dX8_reportOf_8 : decode cX8_reportOf 8 = .ok (.getfield 209, 3) := by decide +kernel
theorem dX8_reportOf_11 : decode cX8_reportOf 11 = .ok (.goto 10, 3) := by decide +kernel
theorem dX8_reportOf_14 : decode cX8_reportOf 14 = .ok (.aload_n 0, 1) := by decide +kernel
theorem dX8_reportOf_15 : decode cX8_reportOf 15 = .ok (.getfield 60, 3) := by decide +kernel
theorem dX8_reportOf_18 : decode cX8_reportOf 18 = .ok (.getfield 213, 3) := by decide +kernel
theorem dX8_reportOf_21 : decode cX8_reportOf 21 = .ok (.areturn, 1) := by decide +kernel
theorem dX8_out_0 : decode cX8_out 0 = .ok (.iload_n 1, 1) := by decide +kernel
theorem dX8_out_1 : decode cX8_out 1 = .ok (.ifCond .eq 11, 3) := by decide +kernel
theorem dX8_out_4 : decode cX8_out 4 = .ok (.iload_n 1, 1) := by decide +kernel
theorem dX8_out_5 : decode cX8_out 5 = .ok (.iconst 1, 1) := by decide +kernel
theorem dX8_out_6 : decode cX8_out 6 = .ok (.if_icmp .eq 6, 3) := by decide +kernel
theorem dX8_out_9 : decode cX8_out 9 = .ok (.bipush (-2), 2) := by decide +kernel
theorem dX8_out_11 : decode cX8_out 11 = .ok (.ireturn, 1) := by decide +kernel
theorem dX8_out_12 : decode cX8_out 12 = .ok (.aload_n 0, 1) := by decide +kernel
theorem dX8_out_13 : decode cX8_out 13 = .ok (.iload_n 1, 1) := by decide +kernel
theorem dX8_out_14 : decode cX8_out 14 = .ok (.invokevirtual 185, 3) := by decide +kernel
theorem dX8_out_17 : decode cX8_out 17 = .ok (.iload_n 2, 1) := by decide +kernel
theorem dX8_out_18 : decode cX8_out 18 = .ok (.invokevirtual 189, 3) := by decide +kernel
theorem dX8_out_21 : decode cX8_out 21 = .ok (.ireturn, 1) := by decide +kernel
theorem dX8_told_0 : decode cX8_told 0 = .ok (.iload_n 1, 1) := by decide +kernel
theorem dX8_told_1 : decode cX8_told 1 = .ok (.ifCond .eq 11, 3) := by decide +kernel
theorem dX8_told_4 : decode cX8_told 4 = .ok (.iload_n 1, 1) := by decide +kernel
theorem dX8_told_5 : decode cX8_told 5 = .ok (.iconst 1, 1) := by decide +kernel
theorem dX8_told_6 : decode cX8_told 6 = .ok (.if_icmp .eq 6, 3) := by decide +kernel
theorem dX8_told_9 : decode cX8_told 9 = .ok (.bipush (-2), 2) := by decide +kernel
theorem dX8_told_11 : decode cX8_told 11 = .ok (.ireturn, 1) := by decide +kernel
theorem dX8_told_12 : decode cX8_told 12 = .ok (.aload_n 0, 1) := by decide +kernel
theorem dX8_told_13 : decode cX8_told 13 = .ok (.iload_n 1, 1) := by decide +kernel
theorem dX8_told_14 : decode cX8_told 14 = .ok (.invokevirtual 185, 3) := by decide +kernel
theorem dX8_told_17 : decode cX8_told 17 = .ok (.astore_n 3, 1) := by decide +kernel
theorem dX8_told_18 : decode cX8_told 18 = .ok (.iload_n 2, 1) := by decide +kernel
theorem dX8_told_19 : decode cX8_told 19 = .ok (.tableswitch 58 0 4 #[33, 38, 43, 48, 53], 33) := by decide +kernel
theorem dX8_told_52 : decode cX8_told 52 = .ok (.aload_n 3, 1) := by decide +kernel
theorem dX8_told_53 : decode cX8_told 53 = .ok (.getfield 194, 3) := by decide +kernel
theorem dX8_told_56 : decode cX8_told 56 = .ok (.ireturn, 1) := by decide +kernel
theorem dX8_told_57 : decode cX8_told 57 = .ok (.aload_n 3, 1) := by decide +kernel
theorem dX8_told_58 : decode cX8_told 58 = .ok (.getfield 197, 3) := by decide +kernel
theorem dX8_told_61 : decode cX8_told 61 = .ok (.ireturn, 1) := by decide +kernel
theorem dX8_told_62 : decode cX8_told 62 = .ok (.aload_n 3, 1) := by decide +kernel
theorem dX8_told_63 : decode cX8_told 63 = .ok (.getfield 200, 3) := by decide +kernel
theorem dX8_told_66 : decode cX8_told 66 = .ok (.ireturn, 1) := by decide +kernel
theorem dX8_told_67 : decode cX8_told 67 = .ok (.aload_n 3, 1) := by decide +kernel
theorem dX8_told_68 : decode cX8_told 68 = .ok (.getfield 203, 3) := by decide +kernel
theorem dX8_told_71 : decode cX8_told 71 = .ok (.ireturn, 1) := by decide +kernel
theorem dX8_told_72 : decode cX8_told 72 = .ok (.aload_n 3, 1) := by decide +kernel
theorem dX8_told_73 : decode cX8_told 73 = .ok (.getfield 206, 3) := by decide +kernel
theorem dX8_told_76 : decode cX8_told 76 = .ok (.ireturn, 1) := by decide +kernel
theorem dX8_told_77 : decode cX8_told 77 = .ok (.bipush (-2), 2) := by decide +kernel
theorem dX8_told_79 : decode cX8_told 79 = .ok (.ireturn, 1) := by decide +kernel
