theorem dX9_in_0 : decode cX9_in 0 = .ok (.lload_n 0, 1) := by decide +kernel
theorem dX9_in_1 : decode cX9_in 1 = .ok (.lload_n 2, 1) := by decide +kernel
theorem dX9_in_2 : decode cX9_in 2 = .ok (.lcmp, 1) := by decide +kernel
theorem dX9_in_3 : decode cX9_in 3 = .ok (.ifCond .lt 14, 3) := by decide +kernel
theorem dX9_in_6 : decode cX9_in 6 = .ok (.lload_n 0, 1) := by decide +kernel
theorem dX9_in_7 : decode cX9_in 7 = .ok (.lload 4, 2) := by decide +kernel
theorem dX9_in_9 : decode cX9_in 9 = .ok (.lcmp, 1) := by decide +kernel
theorem dX9_in_10 : decode cX9_in 10 = .ok (.ifCond .gt 7, 3) := by decide +kernel
theorem dX9_in_13 : decode cX9_in 13 = .ok (.iconst 1, 1) := by decide +kernel
theorem dX9_in_14 : decode cX9_in 14 = .ok (.goto 4, 3) := by decide +kernel
theorem dX9_in_17 : decode cX9_in 17 = .ok (.iconst 0, 1) := by decide +kernel
theorem dX9_in_18 : decode cX9_in 18 = .ok (.ireturn, 1) := by decide +kernel
theorem dX9_isRoutine_0 : decode cX9_isRoutine 0 = .ok (.iload_n 1, 1) := by decide +kernel
theorem dX9_isRoutine_1 : decode cX9_isRoutine 1 = .ok (.i2l, 1) := by decide +kernel
theorem dX9_isRoutine_2 : decode cX9_isRoutine 2 = .ok (.lconst 0, 1) := by decide +kernel
theorem dX9_isRoutine_3 : decode cX9_isRoutine 3 = .ok (.aload_n 0, 1) := by decide +kernel
theorem dX9_isRoutine_4 : decode cX9_isRoutine 4 = .ok (.getfield 90, 3) := by decide +kernel
theorem dX9_isRoutine_7 : decode cX9_isRoutine 7 = .ok (.iconst 1, 1) := by decide +kernel
theorem dX9_isRoutine_8 : decode cX9_isRoutine 8 = .ok (.isub, 1) := by decide +kernel
theorem dX9_isRoutine_9 : decode cX9_isRoutine 9 = .ok (.i2l, 1) := by decide +kernel
theorem dX9_isRoutine_10 : decode cX9_isRoutine 10 = .ok (.invokestatic 93, 3) := by decide +kernel
theorem dX9_isRoutine_13 : decode cX9_isRoutine 13 = .ok (.ireturn, 1) := by decide +kernel
theorem dX9_module_0 : decode cX9_module 0 = .ok (.aload_n 0, 1) := by decide +kernel
theorem dX9_module_1 : decode cX9_module 1 = .ok (.iconst 0, 1) := by decide +kernel
theorem dX9_module_2 : decode cX9_module 2 = .ok (.putfield 1, 3) := by decide +kernel
theorem dX9_module_5 : decode cX9_module 5 = .ok (.iload_n 1, 1) := by decide +kernel
theorem dX9_module_6 : decode cX9_module 6 = .ok (.i2l, 1) := by decide +kernel
theorem dX9_module_7 : decode cX9_module 7 = .ok (.lconst 0, 1) := by decide +kernel
theorem dX9_module_8 : decode cX9_module 8 = .ok (.lconst 1, 1) := by decide +kernel
theorem dX9_module_9 : decode cX9_module 9 = .ok (.invokestatic 93, 3) := by decide +kernel
theorem dX9_module_12 : decode cX9_module 12 = .ok (.ifCond .ne 6, 3) := by decide +kernel
theorem dX9_module_15 : decode cX9_module 15 = .ok (.bipush (-2), 2) := by decide +kernel
theorem dX9_module_17 : decode cX9_module 17 = .ok (.ireturn, 1) := by decide +kernel
theorem dX9_module_18 : decode cX9_module 18 = .ok (.aload_n 0, 1) := by decide +kernel
theorem dX9_module_19 : decode cX9_module 19 = .ok (.getfield 97, 3) := by decide +kernel
theorem dX9_module_22 : decode cX9_module 22 = .ok (.bipush 12, 2) := by decide +kernel
theorem dX9_module_24 : decode cX9_module 24 = .ok (.if_icmp .ne 6, 3) := by decide +kernel
theorem dX9_module_27 : decode cX9_module 27 = .ok (.bipush (-4), 2) := by decide +kernel
theorem dX9_module_29 : decode cX9_module 29 = .ok (.ireturn, 1) := by decide +kernel
theorem dX9_module_30 : decode cX9_module 30 = .ok (.aload_n 0, 1) := by decide +kernel
theorem dX9_module_31 : decode cX9_module 31 = .ok (.iconst 0, 1) := by decide +kernel
theorem dX9_module_32 : decode cX9_module 32 = .ok (.putfield 100, 3) := by decide +kernel
theorem dX9_module_35 : decode cX9_module 35 = .ok (.aload_n 0, 1) := by decide +kernel
theorem dX9_module_36 : decode cX9_module 36 = .ok (.getfield 13, 3) := by decide +kernel
theorem dX9_module_39 : decode cX9_module 39 = .ok (.aload_n 0, 1) := by decide +kernel
theorem dX9_module_40 : decode cX9_module 40 = .ok (.getfield 97, 3) := by decide +kernel
theorem dX9_module_43 : decode cX9_module 43 = .ok (.iload_n 1, 1) := by decide +kernel
theorem dX9_module_44 : decode cX9_module 44 = .ok (.iastore, 1) := by decide +kernel
theorem dX9_module_45 : decode cX9_module 45 = .ok (.aload_n 0, 1) := by decide +kernel
theorem dX9_module_46 : decode cX9_module 46 = .ok (.dup, 1) := by decide +kernel
theorem dX9_module_47 : decode cX9_module 47 = .ok (.getfield 97, 3) := by decide +kernel
theorem dX9_module_50 : decode cX9_module 50 = .ok (.iconst 1, 1) := by decide +kernel
theorem dX9_module_51 : decode cX9_module 51 = .ok (.iadd, 1) := by decide +kernel
theorem dX9_module_52 : decode cX9_module 52 = .ok (.putfield 97, 3) := by decide +kernel
theorem dX9_module_55 : decode cX9_module 55 = .ok (.aload_n 0, 1) := by decide +kernel
theorem dX9_module_56 : decode cX9_module 56 = .ok (.getfield 97, 3) := by decide +kernel
theorem dX9_module_59 : decode cX9_module 59 = .ok (.iconst 1, 1) := by decide +kernel
theorem dX9_module_60 : decode cX9_module 60 = .ok (.isub, 1) := by decide +kernel
theorem dX9_module_61 : decode cX9_module 61 = .ok (.ireturn, 1) := by decide +kernel
theorem dX9_routine_0 : decode cX9_routine 0 = .ok (.aload_n 0, 1) := by decide +kernel
theorem dX9_routine_1 : decode cX9_routine 1 = .ok (.iconst 0, 1) := by decide +kernel
theorem dX9_routine_2 : decode cX9_routine 2 = .ok (.putfield 1, 3) := by decide +kernel
theorem dX9_routine_5 : decode cX9_routine 5 = .ok (.iload_n 1, 1) := by decide +kernel
theorem dX9_routine_6 : decode cX9_routine 6 = .ok (.i2l, 1) := by decide +kernel
theorem dX9_routine_7 : decode cX9_routine 7 = .ok (.lconst 0, 1) := by decide +kernel
theorem dX9_routine_8 : decode cX9_routine 8 = .ok (.aload_n 0, 1) := by decide +kernel
theorem dX9_routine_9 : decode cX9_routine 9 = .ok (.getfield 97, 3) := by decide +kernel
theorem dX9_routine_12 : decode cX9_routine 12 = .ok (.iconst 1, 1) := by decide +kernel
theorem dX9_routine_13 : decode cX9_routine 13 = .ok (.isub, 1) := by decide +kernel
theorem dX9_routine_14 : decode cX9_routine 14 = .ok (.i2l, 1) := by decide +kernel
theorem dX9_routine_15 : decode cX9_routine 15 = .ok (.invokestatic 93, 3) := by decide +kernel
theorem dX9_routine_18 : decode cX9_routine 18 = .ok (.ifCond .eq 15, 3) := by decide +kernel
theorem dX9_routine_21 : decode cX9_routine 21 = .ok (.iload_n 2, 1) := by decide +kernel
theorem dX9_routine_22 : decode cX9_routine 22 = .ok (.i2l, 1) := by decide +kernel
theorem dX9_routine_23 : decode cX9_routine 23 = .ok (.lconst 0, 1) := by decide +kernel
theorem dX9_routine_24 : decode cX9_routine 24 = .ok (.ldc2_w 104, 3) := by decide +kernel
theorem dX9_routine_27 : decode cX9_routine 27 = .ok (.invokestatic 93, 3) := by decide +kernel
theorem dX9_routine_30 : decode cX9_routine 30 = .ok (.ifCond .ne 6, 3) := by decide +kernel
theorem dX9_routine_33 : decode cX9_routine 33 = .ok (.bipush (-2), 2) := by decide +kernel
theorem dX9_routine_35 : decode cX9_routine 35 = .ok (.ireturn, 1) := by decide +kernel
theorem dX9_routine_36 : decode cX9_routine 36 = .ok (.aload_n 0, 1) := by decide +kernel
theorem dX9_routine_37 : decode cX9_routine 37 = .ok (.getfield 90, 3) := by decide +kernel
theorem dX9_routine_40 : decode cX9_routine 40 = .ok (.bipush 30, 2) := by decide +kernel
theorem dX9_routine_42 : decode cX9_routine 42 = .ok (.if_icmp .ne 6, 3) := by decide +kernel
theorem dX9_routine_45 : decode cX9_routine 45 = .ok (.bipush (-4), 2) := by decide +kernel
theorem dX9_routine_47 : decode cX9_routine 47 = .ok (.ireturn, 1) := by decide +kernel
theorem dX9_routine_48 : decode cX9_routine 48 = .ok (.aload_n 0, 1) := by decide +kernel
theorem dX9_routine_49 : decode cX9_routine 49 = .ok (.iconst 0, 1) := by decide +kernel
theorem dX9_routine_50 : decode cX9_routine 50 = .ok (.putfield 100, 3) := by decide +kernel
theorem dX9_routine_53 : decode cX9_routine 53 = .ok (.aload_n 0, 1) := by decide +kernel
theorem dX9_routine_54 : decode cX9_routine 54 = .ok (.getfield 17, 3) := by decide +kernel
theorem dX9_routine_57 : decode cX9_routine 57 = .ok (.aload_n 0, 1) := by decide +kernel
theorem dX9_routine_58 : decode cX9_routine 58 = .ok (.getfield 90, 3) := by decide +kernel
theorem dX9_routine_61 : decode cX9_routine 61 = .ok (.iload_n 1, 1) := by decide +kernel
theorem dX9_routine_62 : decode cX9_routine 62 = .ok (.iastore, 1) := by decide +kernel
theorem dX9_routine_63 : decode cX9_routine 63 = .ok (.aload_n 0, 1) := by decide +kernel
theorem dX9_routine_64 : decode cX9_routine 64 = .ok (.getfield 20, 3) := by decide +kernel
theorem dX9_routine_67 : decode cX9_routine 67 = .ok (.aload_n 0, 1) := by decide +kernel
theorem dX9_routine_68 : decode cX9_routine 68 = .ok (.getfield 90, 3) := by decide +kernel
theorem dX9_routine_71 : decode cX9_routine 71 = .ok (.iload_n 2, 1) := by decide +kernel
theorem dX9_routine_72 : decode cX9_routine 72 = .ok (.iastore, 1) := by decide +kernel
theorem dX9_routine_73 : decode cX9_routine 73 = .ok (.aload_n 0, 1) := by decide +kernel
theorem dX9_routine_74 : decode cX9_routine 74 = .ok (.getfield 23, 3) := by decide +kernel
theorem dX9_routine_77 : decode cX9_routine 77 = .ok (.aload_n 0, 1) := by decide +kernel
theorem dX9_routine_78 : decode cX9_routine 78 = .ok (.getfield 90, 3) := by decide +kernel
theorem dX9_routine_81 : decode cX9_routine 81 = .ok (.iconst 0, 1) := by decide +kernel
theorem dX9_routine_82 : decode cX9_routine 82 = .ok (.iastore, 1) := by decide +kernel
theorem dX9_routine_83 : decode cX9_routine 83 = .ok (.aload_n 0, 1) := by decide +kernel
theorem dX9_routine_84 : decode cX9_routine 84 = .ok (.dup, 1) := by decide +kernel
theorem dX9_routine_85 : decode cX9_routine 85 = .ok (.getfield 90, 3) := by decide +kernel
theorem dX9_routine_88 : decode cX9_routine 88 = .ok (.iconst 1, 1) := by decide +kernel
theorem dX9_routine_89 : decode cX9_routine 89 = .ok (.iadd, 1) := by decide +kernel
theorem dX9_routine_90 : decode cX9_routine 90 = .ok (.putfield 90, 3) := by decide +kernel
theorem dX9_routine_93 : decode cX9_routine 93 = .ok (.aload_n 0, 1) := by decide +kernel
theorem dX9_routine_94 : decode cX9_routine 94 = .ok (.getfield 90, 3) := by decide +kernel
theorem dX9_routine_97 : decode cX9_routine 97 = .ok (.iconst 1, 1) := by decide +kernel
theorem dX9_routine_98 : decode cX9_routine 98 = .ok (.isub, 1) := by decide +kernel
theorem dX9_routine_99 : decode cX9_routine 99 = .ok (.ireturn, 1) := by decide +kernel
theorem dX9_isValue_0 : decode cX9_isValue 0 = .ok (.iload_n 2, 1) := by decide +kernel
theorem dX9_isValue_1 : decode cX9_isValue 1 = .ok (.tableswitch 89 0 7 #[47, 47, 89, 57, 57, 73, 79, 79], 47) := by decide +kernel
theorem dX9_isValue_48 : decode cX9_isValue 48 = .ok (.iload_n 3, 1) := by decide +kernel
theorem dX9_isValue_49 : decode cX9_isValue 49 = .ok (.i2l, 1) := by decide +kernel
theorem dX9_isValue_50 : decode cX9_isValue 50 = .ok (.lconst 0, 1) := by decide +kernel
theorem dX9_isValue_51 : decode cX9_isValue 51 = .ok (.ldc2_w 106, 3) := by decide +kernel
theorem dX9_isValue_54 : decode cX9_isValue 54 = .ok (.invokestatic 93, 3) := by decide +kernel
theorem dX9_isValue_57 : decode cX9_isValue 57 = .ok (.ireturn, 1) := by decide +kernel
theorem dX9_isValue_58 : decode cX9_isValue 58 = .ok (.iload_n 3, 1) := by decide +kernel
theorem dX9_isValue_59 : decode cX9_isValue 59 = .ok (.i2l, 1) := by decide +kernel
theorem dX9_isValue_60 : decode cX9_isValue 60 = .ok (.lconst 0, 1) := by decide +kernel
theorem dX9_isValue_61 : decode cX9_isValue 61 = .ok (.aload_n 0, 1) := by decide +kernel
theorem dX9_isValue_62 : decode cX9_isValue 62 = .ok (.getfield 20, 3) := by decide +kernel
theorem dX9_isValue_65 : decode cX9_isValue 65 = .ok (.iload_n 1, 1) := by decide +kernel
theorem dX9_isValue_66 : decode cX9_isValue 66 = .ok (.iaload, 1) := by decide +kernel
theorem dX9_isValue_67 : decode cX9_isValue 67 = .ok (.iconst 1, 1) := by decide +kernel
theorem dX9_isValue_68 : decode cX9_isValue 68 = .ok (.isub, 1) := by decide +kernel
theorem dX9_isValue_69 : decode cX9_isValue 69 = .ok (.i2l, 1) := by decide +kernel
theorem dX9_isValue_70 : decode cX9_isValue 70 = .ok (.invokestatic 93, 3) := by decide +kernel
theorem dX9_isValue_73 : decode cX9_isValue 73 = .ok (.ireturn, 1) := by decide +kernel
theorem dX9_isValue_74 : decode cX9_isValue 74 = .ok (.aload_n 0, 1) := by decide +kernel
theorem dX9_isValue_75 : decode cX9_isValue 75 = .ok (.iload_n 3, 1) := by decide +kernel
theorem dX9_isValue_76 : decode cX9_isValue 76 = .ok (.invokevirtual 108, 3) := by decide +kernel
theorem dX9_isValue_79 : decode cX9_isValue 79 = .ok (.ireturn, 1) := by decide +kernel
theorem dX9_isValue_80 : decode cX9_isValue 80 = .ok (.iload_n 3, 1) := by decide +kernel
theorem dX9_isValue_81 : decode cX9_isValue 81 = .ok (.i2l, 1) := by decide +kernel
theorem dX9_isValue_82 : decode cX9_isValue 82 = .ok (.lconst 0, 1) := by decide +kernel
theorem dX9_isValue_83 : decode cX9_isValue 83 = .ok (.ldc2_w 112, 3) := by decide +kernel
theorem dX9_isValue_86 : decode cX9_isValue 86 = .ok (.invokestatic 93, 3) := by decide +kernel
theorem dX9_isValue_89 : decode cX9_isValue 89 = .ok (.ireturn, 1) := by decide +kernel
theorem dX9_isValue_90 : decode cX9_isValue 90 = .ok (.iconst 1, 1) := by decide +kernel
theorem dX9_isValue_91 : decode cX9_isValue 91 = .ok (.ireturn, 1) := by decide +kernel
theorem dX9_op_0 : decode cX9_op 0 = .ok (.aload_n 0, 1) := by decide +kernel
theorem dX9_op_1 : decode cX9_op 1 = .ok (.iconst 0, 1) := by decide +kernel
theorem dX9_op_2 : decode cX9_op 2 = .ok (.putfield 1, 3) := by decide +kernel
theorem dX9_op_5 : decode cX9_op 5 = .ok (.aload_n 0, 1) := by decide +kernel
theorem dX9_op_6 : decode cX9_op 6 = .ok (.iload_n 1, 1) := by decide +kernel
theorem dX9_op_7 : decode cX9_op 7 = .ok (.invokevirtual 108, 3) := by decide +kernel
theorem dX9_op_10 : decode cX9_op 10 = .ok (.ifCond .eq 25, 3) := by decide +kernel
theorem dX9_op_13 : decode cX9_op 13 = .ok (.iload_n 2, 1) := by decide +kernel
theorem dX9_op_14 : decode cX9_op 14 = .ok (.i2l, 1) := by decide +kernel
theorem dX9_op_15 : decode cX9_op 15 = .ok (.lconst 0, 1) := by decide +kernel
theorem dX9_op_16 : decode cX9_op 16 = .ok (.ldc2_w 114, 3) := by decide +kernel
theorem dX9_op_19 : decode cX9_op 19 = .ok (.invokestatic 93, 3) := by decide +kernel
theorem dX9_op_22 : decode cX9_op 22 = .ok (.ifCond .eq 13, 3) := by decide +kernel
theorem dX9_op_25 : decode cX9_op 25 = .ok (.aload_n 0, 1) := by decide +kernel
theorem dX9_op_26 : decode cX9_op 26 = .ok (.iload_n 1, 1) := by decide +kernel
theorem dX9_op_27 : decode cX9_op 27 = .ok (.iload_n 2, 1) := by decide +kernel
theorem dX9_op_28 : decode cX9_op 28 = .ok (.iload_n 3, 1) := by decide +kernel
theorem dX9_op_29 : decode cX9_op 29 = .ok (.invokevirtual 116, 3) := by decide +kernel
theorem dX9_op_32 : decode cX9_op 32 = .ok (.ifCond .ne 6, 3) := by decide +kernel
theorem dX9_op_35 : decode cX9_op 35 = .ok (.bipush (-2), 2) := by decide +kernel
theorem dX9_op_37 : decode cX9_op 37 = .ok (.ireturn, 1) := by decide +kernel
theorem dX9_op_38 : decode cX9_op 38 = .ok (.aload_n 0, 1) := by decide +kernel
theorem dX9_op_39 : decode cX9_op 39 = .ok (.getfield 23, 3) := by decide +kernel
theorem dX9_op_42 : decode cX9_op 42 = .ok (.iload_n 1, 1) := by decide +kernel
theorem dX9_op_43 : decode cX9_op 43 = .ok (.iaload, 1) := by decide +kernel
theorem dX9_op_44 : decode cX9_op 44 = .ok (.bipush 40, 2) := by decide +kernel
theorem dX9_op_46 : decode cX9_op 46 = .ok (.if_icmp .ne 6, 3) := by decide +kernel
theorem dX9_op_49 : decode cX9_op 49 = .ok (.bipush (-4), 2) := by decide +kernel
theorem dX9_op_51 : decode cX9_op 51 = .ok (.ireturn, 1) := by decide +kernel
theorem dX9_op_52 : decode cX9_op 52 = .ok (.aload_n 0, 1) := by decide +kernel
theorem dX9_op_53 : decode cX9_op 53 = .ok (.iconst 0, 1) := by decide +kernel
theorem dX9_op_54 : decode cX9_op 54 = .ok (.putfield 100, 3) := by decide +kernel
theorem dX9_op_57 : decode cX9_op 57 = .ok (.aload_n 0, 1) := by decide +kernel
theorem dX9_op_58 : decode cX9_op 58 = .ok (.getfield 26, 3) := by decide +kernel
theorem dX9_op_61 : decode cX9_op 61 = .ok (.bipush 40, 2) := by decide +kernel
theorem dX9_op_63 : decode cX9_op 63 = .ok (.iload_n 1, 1) := by decide +kernel
theorem dX9_op_64 : decode cX9_op 64 = .ok (.imul, 1) := by decide +kernel
theorem dX9_op_65 : decode cX9_op 65 = .ok (.aload_n 0, 1) := by decide +kernel
theorem dX9_op_66 : decode cX9_op 66 = .ok (.getfield 23, 3) := by decide +kernel
theorem dX9_op_69 : decode cX9_op 69 = .ok (.iload_n 1, 1) := by decide +kernel
theorem dX9_op_70 : decode cX9_op 70 = .ok (.iaload, 1) := by decide +kernel
theorem dX9_op_71 : decode cX9_op 71 = .ok (.iadd, 1) := by decide +kernel
theorem dX9_op_72 : decode cX9_op 72 = .ok (.iload_n 2, 1) := by decide +kernel
theorem dX9_op_73 : decode cX9_op 73 = .ok (.iastore, 1) := by decide +kernel
theorem dX9_op_74 : decode cX9_op 74 = .ok (.aload_n 0, 1) := by decide +kernel
theorem dX9_op_75 : decode cX9_op 75 = .ok (.getfield 29, 3) := by decide +kernel
theorem dX9_op_78 : decode cX9_op 78 = .ok (.bipush 40, 2) := by decide +kernel
theorem dX9_op_80 : decode cX9_op 80 = .ok (.iload_n 1, 1) := by decide +kernel
theorem dX9_op_81 : decode cX9_op 81 = .ok (.imul, 1) := by decide +kernel
theorem dX9_op_82 : decode cX9_op 82 = .ok (.aload_n 0, 1) := by decide +kernel
theorem dX9_op_83 : decode cX9_op 83 = .ok (.getfield 23, 3) := by decide +kernel
theorem dX9_op_86 : decode cX9_op 86 = .ok (.iload_n 1, 1) := by decide +kernel
theorem dX9_op_87 : decode cX9_op 87 = .ok (.iaload, 1) := by decide +kernel
theorem dX9_op_88 : decode cX9_op 88 = .ok (.iadd, 1) := by decide +kernel
theorem dX9_op_89 : decode cX9_op 89 = .ok (.iload_n 3, 1) := by decide +kernel
theorem dX9_op_90 : decode cX9_op 90 = .ok (.iastore, 1) := by decide +kernel
theorem dX9_op_91 : decode cX9_op 91 = .ok (.aload_n 0, 1) := by decide +kernel
theorem dX9_op_92 : decode cX9_op 92 = .ok (.getfield 23, 3) := by decide +kernel
theorem dX9_op_95 : decode cX9_op 95 = .ok (.iload_n 1, 1) := by decide +kernel
theorem dX9_op_96 : decode cX9_op 96 = .ok (.dup2, 1) := by decide +kernel
theorem dX9_op_97 : decode cX9_op 97 = .ok (.iaload, 1) := by decide +kernel
theorem dX9_op_98 : decode cX9_op 98 = .ok (.iconst 1, 1) := by decide +kernel
theorem dX9_op_99 : decode cX9_op 99 = .ok (.iadd, 1) := by decide +kernel
theorem dX9_op_100 : decode cX9_op 100 = .ok (.iastore, 1) := by decide +kernel
theorem dX9_op_101 : decode cX9_op 101 = .ok (.aload_n 0, 1) := by decide +kernel
theorem dX9_op_102 : decode cX9_op 102 = .ok (.getfield 23, 3) := by decide +kernel
theorem dX9_op_105 : decode cX9_op 105 = .ok (.iload_n 1, 1) := by decide +kernel
theorem dX9_op_106 : decode cX9_op 106 = .ok (.iaload, 1) := by decide +kernel
theorem dX9_op_107 : decode cX9_op 107 = .ok (.ireturn, 1) := by decide +kernel
theorem dX9_drop_0 : decode cX9_drop 0 = .ok (.aload_n 0, 1) := by decide +kernel
theorem dX9_drop_1 : decode cX9_drop 1 = .ok (.iconst 0, 1) := by decide +kernel
theorem dX9_drop_2 : decode cX9_drop 2 = .ok (.putfield 1, 3) := by decide +kernel
theorem dX9_drop_5 : decode cX9_drop 5 = .ok (.aload_n 0, 1) := by decide +kernel
theorem dX9_drop_6 : decode cX9_drop 6 = .ok (.iload_n 1, 1) := by decide +kernel
theorem dX9_drop_7 : decode cX9_drop 7 = .ok (.invokevirtual 108, 3) := by decide +kernel
theorem dX9_drop_10 : decode cX9_drop 10 = .ok (.ifCond .ne 6, 3) := by decide +kernel
theorem dX9_drop_13 : decode cX9_drop 13 = .ok (.bipush (-2), 2) := by decide +kernel
theorem dX9_drop_15 : decode cX9_drop 15 = .ok (.ireturn, 1) := by decide +kernel
theorem dX9_drop_16 : decode cX9_drop 16 = .ok (.aload_n 0, 1) := by decide +kernel
theorem dX9_drop_17 : decode cX9_drop 17 = .ok (.getfield 23, 3) := by decide +kernel
theorem dX9_drop_20 : decode cX9_drop 20 = .ok (.iload_n 1, 1) := by decide +kernel
theorem dX9_drop_21 : decode cX9_drop 21 = .ok (.iaload, 1) := by decide +kernel
theorem dX9_drop_22 : decode cX9_drop 22 = .ok (.ifCond .ne 5, 3) := by decide +kernel
theorem dX9_drop_25 : decode cX9_drop 25 = .ok (.iconst (-1), 1) := by decide +kernel
theorem dX9_drop_26 : decode cX9_drop 26 = .ok (.ireturn, 1) := by decide +kernel
theorem dX9_drop_27 : decode cX9_drop 27 = .ok (.aload_n 0, 1) := by decide +kernel
theorem dX9_drop_28 : decode cX9_drop 28 = .ok (.iconst 0, 1) := by decide +kernel
theorem dX9_drop_29 : decode cX9_drop 29 = .ok (.putfield 100, 3) := by decide +kernel
theorem dX9_drop_32 : decode cX9_drop 32 = .ok (.aload_n 0, 1) := by decide +kernel
theorem dX9_drop_33 : decode cX9_drop 33 = .ok (.getfield 23, 3) := by decide +kernel
theorem dX9_drop_36 : decode cX9_drop 36 = .ok (.iload_n 1, 1) := by decide +kernel
theorem dX9_drop_37 : decode cX9_drop 37 = .ok (.dup2, 1) := by decide +kernel
theorem dX9_drop_38 : decode cX9_drop 38 = .ok (.iaload, 1) := by decide +kernel
theorem dX9_drop_39 : decode cX9_drop 39 = .ok (.iconst 1, 1) := by decide +kernel
theorem dX9_drop_40 : decode cX9_drop 40 = .ok (.isub, 1) := by decide +kernel
theorem dX9_drop_41 : decode cX9_drop 41 = .ok (.iastore, 1) := by decide +kernel
theorem dX9_drop_42 : decode cX9_drop 42 = .ok (.aload_n 0, 1) := by decide +kernel
theorem dX9_drop_43 : decode cX9_drop 43 = .ok (.getfield 23, 3) := by decide +kernel
theorem dX9_drop_46 : decode cX9_drop 46 = .ok (.iload_n 1, 1) := by decide +kernel
theorem dX9_drop_47 : decode cX9_drop 47 = .ok (.iaload, 1) := by decide +kernel
theorem dX9_drop_48 : decode cX9_drop 48 = .ok (.ireturn, 1) := by decide +kernel
theorem dX9_limit_0 : decode cX9_limit 0 = .ok (.aload_n 0, 1) := by decide +kernel
theorem dX9_limit_1 : decode cX9_limit 1 = .ok (.iconst 0, 1) := by decide +kernel
theorem dX9_limit_2 : decode cX9_limit 2 = .ok (.putfield 1, 3) := by decide +kernel
theorem dX9_limit_5 : decode cX9_limit 5 = .ok (.iload_n 1, 1) := by decide +kernel
theorem dX9_limit_6 : decode cX9_limit 6 = .ok (.ifCond .ne 15, 3) := by decide +kernel
theorem dX9_limit_9 : decode cX9_limit 9 = .ok (.iload_n 2, 1) := by decide +kernel
theorem dX9_limit_10 : decode cX9_limit 10 = .ok (.i2l, 1) := by decide +kernel
theorem dX9_limit_11 : decode cX9_limit 11 = .ok (.lconst 1, 1) := by decide +kernel
theorem dX9_limit_12 : decode cX9_limit 12 = .ok (.ldc2_w 114, 3) := by decide +kernel
theorem dX9_limit_15 : decode cX9_limit 15 = .ok (.invokestatic 93, 3) := by decide +kernel
theorem dX9_limit_18 : decode cX9_limit 18 = .ok (.goto 66, 3) := by decide +kernel
theorem dX9_limit_21 : decode cX9_limit 21 = .ok (.iload_n 1, 1) := by decide +kernel
theorem dX9_limit_22 : decode cX9_limit 22 = .ok (.iconst 1, 1) := by decide +kernel
theorem dX9_limit_23 : decode cX9_limit 23 = .ok (.if_icmp .eq 8, 3) := by decide +kernel
theorem dX9_limit_26 : decode cX9_limit 26 = .ok (.iload_n 1, 1) := by decide +kernel
theorem dX9_limit_27 : decode cX9_limit 27 = .ok (.iconst 2, 1) := by decide +kernel
theorem dX9_limit_28 : decode cX9_limit 28 = .ok (.if_icmp .ne 17, 3) := by decide +kernel
theorem dX9_limit_31 : decode cX9_limit 31 = .ok (.iload_n 2, 1) := by decide +kernel
theorem dX9_limit_32 : decode cX9_limit 32 = .ok (.i2l, 1) := by decide +kernel
theorem dX9_limit_33 : decode cX9_limit 33 = .ok (.ldc2_w 114, 3) := by decide +kernel
theorem dX9_limit_36 : decode cX9_limit 36 = .ok (.ldc2_w 120, 3) := by decide +kernel
theorem dX9_limit_39 : decode cX9_limit 39 = .ok (.invokestatic 93, 3) := by decide +kernel
theorem dX9_limit_42 : decode cX9_limit 42 = .ok (.goto 42, 3) := by decide +kernel
theorem dX9_limit_45 : decode cX9_limit 45 = .ok (.iload_n 1, 1) := by decide +kernel
theorem dX9_limit_46 : decode cX9_limit 46 = .ok (.iconst 3, 1) := by decide +kernel
theorem dX9_limit_47 : decode cX9_limit 47 = .ok (.if_icmp .ne 15, 3) := by decide +kernel
theorem dX9_limit_50 : decode cX9_limit 50 = .ok (.iload_n 2, 1) := by decide +kernel
theorem dX9_limit_51 : decode cX9_limit 51 = .ok (.i2l, 1) := by decide +kernel
theorem dX9_limit_52 : decode cX9_limit 52 = .ok (.lconst 1, 1) := by decide +kernel
theorem dX9_limit_53 : decode cX9_limit 53 = .ok (.ldc2_w 122, 3) := by decide +kernel
theorem dX9_limit_56 : decode cX9_limit 56 = .ok (.invokestatic 93, 3) := by decide +kernel
theorem dX9_limit_59 : decode cX9_limit 59 = .ok (.goto 25, 3) := by decide +kernel
theorem dX9_limit_62 : decode cX9_limit 62 = .ok (.iload_n 1, 1) := by decide +kernel
theorem dX9_limit_63 : decode cX9_limit 63 = .ok (.iconst 4, 1) := by decide +kernel
theorem dX9_limit_64 : decode cX9_limit 64 = .ok (.if_icmp .ne 19, 3) := by decide +kernel
theorem dX9_limit_67 : decode cX9_limit 67 = .ok (.iload_n 2, 1) := by decide +kernel
theorem dX9_limit_68 : decode cX9_limit 68 = .ok (.i2l, 1) := by decide +kernel
theorem dX9_limit_69 : decode cX9_limit 69 = .ok (.lconst 0, 1) := by decide +kernel
theorem dX9_limit_70 : decode cX9_limit 70 = .ok (.ldc2_w 124, 3) := by decide +kernel
theorem dX9_limit_73 : decode cX9_limit 73 = .ok (.invokestatic 93, 3) := by decide +kernel
theorem dX9_limit_76 : decode cX9_limit 76 = .ok (.ifCond .eq 7, 3) := by decide +kernel
theorem dX9_limit_79 : decode cX9_limit 79 = .ok (.iconst 1, 1) := by decide +kernel
theorem dX9_limit_80 : decode cX9_limit 80 = .ok (.goto 4, 3) := by decide +kernel
theorem dX9_limit_83 : decode cX9_limit 83 = .ok (.iconst 0, 1) := by decide +kernel
theorem dX9_limit_84 : decode cX9_limit 84 = .ok (.istore_n 3, 1) := by decide +kernel
theorem dX9_limit_85 : decode cX9_limit 85 = .ok (.iload_n 3, 1) := by decide +kernel
theorem dX9_limit_86 : decode cX9_limit 86 = .ok (.ifCond .ne 6, 3) := by decide +kernel
theorem dX9_limit_89 : decode cX9_limit 89 = .ok (.bipush (-2), 2) := by decide +kernel
theorem dX9_limit_91 : decode cX9_limit 91 = .ok (.ireturn, 1) := by decide +kernel
theorem dX9_limit_92 : decode cX9_limit 92 = .ok (.aload_n 0, 1) := by decide +kernel
theorem dX9_limit_93 : decode cX9_limit 93 = .ok (.iconst 0, 1) := by decide +kernel
theorem dX9_limit_94 : decode cX9_limit 94 = .ok (.putfield 100, 3) := by decide +kernel
theorem dX9_limit_97 : decode cX9_limit 97 = .ok (.aload_n 0, 1) := by decide +kernel
theorem dX9_limit_98 : decode cX9_limit 98 = .ok (.getfield 32, 3) := by decide +kernel
theorem dX9_limit_101 : decode cX9_limit 101 = .ok (.iload_n 1, 1) := by decide +kernel
theorem dX9_limit_102 : decode cX9_limit 102 = .ok (.iaload, 1) := by decide +kernel
theorem dX9_limit_103 : decode cX9_limit 103 = .ok (.istore 4, 2) := by decide +kernel
theorem dX9_limit_105 : decode cX9_limit 105 = .ok (.aload_n 0, 1) := by decide +kernel
theorem dX9_limit_106 : decode cX9_limit 106 = .ok (.getfield 32, 3) := by decide +kernel
theorem dX9_limit_109 : decode cX9_limit 109 = .ok (.iload_n 1, 1) := by decide +kernel
theorem dX9_limit_110 : decode cX9_limit 110 = .ok (.iload_n 2, 1) := by decide +kernel
theorem dX9_limit_111 : decode cX9_limit 111 = .ok (.iastore, 1) := by decide +kernel
theorem dX9_limit_112 : decode cX9_limit 112 = .ok (.iload 4, 2) := by decide +kernel
theorem dX9_limit_114 : decode cX9_limit 114 = .ok (.ireturn, 1) := by decide +kernel
theorem dX9_bytesOf_0 : decode cX9_bytesOf 0 = .ok (.iload_n 0, 1) := by decide +kernel
theorem dX9_bytesOf_1 : decode cX9_bytesOf 1 = .ok (.iconst 2, 1) := by decide +kernel
theorem dX9_bytesOf_2 : decode cX9_bytesOf 2 = .ok (.if_icmp .eq 9, 3) := by decide +kernel
theorem dX9_bytesOf_5 : decode cX9_bytesOf 5 = .ok (.iload_n 0, 1) := by decide +kernel
theorem dX9_bytesOf_6 : decode cX9_bytesOf 6 = .ok (.bipush 8, 2) := by decide +kernel
theorem dX9_bytesOf_8 : decode cX9_bytesOf 8 = .ok (.if_icmp .ne 7, 3) := by decide +kernel
theorem dX9_bytesOf_11 : decode cX9_bytesOf 11 = .ok (.iconst 1, 1) := by decide +kernel
theorem dX9_bytesOf_12 : decode cX9_bytesOf 12 = .ok (.goto 13, 3) := by decide +kernel
theorem dX9_bytesOf_15 : decode cX9_bytesOf 15 = .ok (.iload_n 0, 1) := by decide +kernel
theorem dX9_bytesOf_16 : decode cX9_bytesOf 16 = .ok (.iconst 5, 1) := by decide +kernel
theorem dX9_bytesOf_17 : decode cX9_bytesOf 17 = .ok (.if_icmp .ne 7, 3) := by decide +kernel
theorem dX9_bytesOf_20 : decode cX9_bytesOf 20 = .ok (.iconst 3, 1) := by decide +kernel
theorem dX9_bytesOf_21 : decode cX9_bytesOf 21 = .ok (.goto 4, 3) := by decide +kernel
theorem dX9_bytesOf_24 : decode cX9_bytesOf 24 = .ok (.iconst 2, 1) := by decide +kernel
theorem dX9_bytesOf_25 : decode cX9_bytesOf 25 = .ok (.ireturn, 1) := by decide +kernel
theorem dX9_ahead_0 : decode cX9_ahead 0 = .ok (.aload_n 0, 1) := by decide +kernel
theorem dX9_ahead_1 : decode cX9_ahead 1 = .ok (.getfield 20, 3) := by decide +kernel
theorem dX9_ahead_4 : decode cX9_ahead 4 = .ok (.iload_n 1, 1) := by decide +kernel
theorem dX9_ahead_5 : decode cX9_ahead 5 = .ok (.iaload, 1) := by decide +kernel
theorem dX9_ahead_6 : decode cX9_ahead 6 = .ok (.ifCond .le 7, 3) := by decide +kernel
theorem dX9_ahead_9 : decode cX9_ahead 9 = .ok (.iconst 3, 1) := by decide +kernel
theorem dX9_ahead_10 : decode cX9_ahead 10 = .ok (.goto 4, 3) := by decide +kernel
theorem dX9_ahead_13 : decode cX9_ahead 13 = .ok (.iconst 0, 1) := by decide +kernel
theorem dX9_ahead_14 : decode cX9_ahead 14 = .ok (.istore_n 3, 1) := by decide +kernel
theorem dX9_ahead_15 : decode cX9_ahead 15 = .ok (.iconst 0, 1) := by decide +kernel
theorem dX9_ahead_16 : decode cX9_ahead 16 = .ok (.istore 4, 2) := by decide +kernel
theorem dX9_ahead_18 : decode cX9_ahead 18 = .ok (.iload 4, 2) := by decide +kernel
theorem dX9_ahead_20 : decode cX9_ahead 20 = .ok (.iload_n 2, 1) := by decide +kernel
theorem dX9_ahead_21 : decode cX9_ahead 21 = .ok (.if_icmp .ge 27, 3) := by decide +kernel
theorem dX9_ahead_24 : decode cX9_ahead 24 = .ok (.iload_n 3, 1) := by decide +kernel
theorem dX9_ahead_25 : decode cX9_ahead 25 = .ok (.aload_n 0, 1) := by decide +kernel
theorem dX9_ahead_26 : decode cX9_ahead 26 = .ok (.getfield 26, 3) := by decide +kernel
theorem dX9_ahead_29 : decode cX9_ahead 29 = .ok (.bipush 40, 2) := by decide +kernel
theorem dX9_ahead_31 : decode cX9_ahead 31 = .ok (.iload_n 1, 1) := by decide +kernel
theorem dX9_ahead_32 : decode cX9_ahead 32 = .ok (.imul, 1) := by decide +kernel
theorem dX9_ahead_33 : decode cX9_ahead 33 = .ok (.iload 4, 2) := by decide +kernel
theorem dX9_ahead_35 : decode cX9_ahead 35 = .ok (.iadd, 1) := by decide +kernel
theorem dX9_ahead_36 : decode cX9_ahead 36 = .ok (.iaload, 1) := by decide +kernel
theorem dX9_ahead_37 : decode cX9_ahead 37 = .ok (.invokestatic 126, 3) := by decide +kernel
theorem dX9_ahead_40 : decode cX9_ahead 40 = .ok (.iadd, 1) := by decide +kernel
theorem dX9_ahead_41 : decode cX9_ahead 41 = .ok (.istore_n 3, 1) := by decide +kernel
theorem dX9_ahead_42 : decode cX9_ahead 42 = .ok (.iinc 4 1, 3) := by decide +kernel
theorem dX9_ahead_45 : decode cX9_ahead 45 = .ok (.goto (-27), 3) := by decide +kernel
theorem dX9_ahead_48 : decode cX9_ahead 48 = .ok (.iload_n 3, 1) := by decide +kernel
theorem dX9_ahead_49 : decode cX9_ahead 49 = .ok (.ireturn, 1) := by decide +kernel
theorem dX9_sizeOf_0 : decode cX9_sizeOf 0 = .ok (.aload_n 0, 1) := by decide +kernel
theorem dX9_sizeOf_1 : decode cX9_sizeOf 1 = .ok (.iload_n 1, 1) := by decide +kernel
theorem dX9_sizeOf_2 : decode cX9_sizeOf 2 = .ok (.aload_n 0, 1) := by decide +kernel
theorem dX9_sizeOf_3 : decode cX9_sizeOf 3 = .ok (.getfield 23, 3) := by decide +kernel
theorem dX9_sizeOf_6 : decode cX9_sizeOf 6 = .ok (.iload_n 1, 1) := by decide +kernel
theorem dX9_sizeOf_7 : decode cX9_sizeOf 7 = .ok (.iaload, 1) := by decide +kernel
theorem dX9_sizeOf_8 : decode cX9_sizeOf 8 = .ok (.invokevirtual 130, 3) := by decide +kernel
theorem dX9_sizeOf_11 : decode cX9_sizeOf 11 = .ok (.iconst 1, 1) := by decide +kernel
theorem dX9_sizeOf_12 : decode cX9_sizeOf 12 = .ok (.iadd, 1) := by decide +kernel
theorem dX9_sizeOf_13 : decode cX9_sizeOf 13 = .ok (.ireturn, 1) := by decide +kernel
theorem dX9_sizeOfModule_0 : decode cX9_sizeOfModule 0 = .ok (.iconst 0, 1) := by decide +kernel
theorem dX9_sizeOfModule_1 : decode cX9_sizeOfModule 1 = .ok (.istore_n 2, 1) := by decide +kernel
theorem dX9_sizeOfModule_2 : decode cX9_sizeOfModule 2 = .ok (.iconst 0, 1) := by decide +kernel
theorem dX9_sizeOfModule_3 : decode cX9_sizeOfModule 3 = .ok (.istore_n 3, 1) := by decide +kernel
theorem dX9_sizeOfModule_4 : decode cX9_sizeOfModule 4 = .ok (.iload_n 3, 1) := by decide +kernel
theorem dX9_sizeOfModule_5 : decode cX9_sizeOfModule 5 = .ok (.aload_n 0, 1) := by decide +kernel
theorem dX9_sizeOfModule_6 : decode cX9_sizeOfModule 6 = .ok (.getfield 90, 3) := by decide +kernel
theorem dX9_sizeOfModule_9 : decode cX9_sizeOfModule 9 = .ok (.if_icmp .ge 31, 3) := by decide +kernel
theorem dX9_sizeOfModule_12 : decode cX9_sizeOfModule 12 = .ok (.iload_n 2, 1) := by decide +kernel
theorem dX9_sizeOfModule_13 : decode cX9_sizeOfModule 13 = .ok (.aload_n 0, 1) := by decide +kernel
theorem dX9_sizeOfModule_14 : decode cX9_sizeOfModule 14 = .ok (.getfield 17, 3) := by decide +kernel
theorem dX9_sizeOfModule_17 : decode cX9_sizeOfModule 17 = .ok (.iload_n 3, 1) := by decide +kernel
theorem dX9_sizeOfModule_18 : decode cX9_sizeOfModule 18 = .ok (.iaload, 1) := by decide +kernel
theorem dX9_sizeOfModule_19 : decode cX9_sizeOfModule 19 = .ok (.iload_n 1, 1) := by decide +kernel
theorem dX9_sizeOfModule_20 : decode cX9_sizeOfModule 20 = .ok (.if_icmp .ne 11, 3) := by decide +kernel
theorem dX9_sizeOfModule_23 : decode cX9_sizeOfModule 23 = .ok (.aload_n 0, 1) := by decide +kernel
theorem dX9_sizeOfModule_24 : decode cX9_sizeOfModule 24 = .ok (.iload_n 3, 1) := by decide +kernel
theorem dX9_sizeOfModule_25 : decode cX9_sizeOfModule 25 = .ok (.invokevirtual 134, 3) := by decide +kernel
theorem dX9_sizeOfModule_28 : decode cX9_sizeOfModule 28 = .ok (.goto 4, 3) := by decide +kernel
theorem dX9_sizeOfModule_31 : decode cX9_sizeOfModule 31 = .ok (.iconst 0, 1) := by decide +kernel
theorem dX9_sizeOfModule_32 : decode cX9_sizeOfModule 32 = .ok (.iadd, 1) := by decide +kernel
theorem dX9_sizeOfModule_33 : decode cX9_sizeOfModule 33 = .ok (.istore_n 2, 1) := by decide +kernel
theorem dX9_sizeOfModule_34 : decode cX9_sizeOfModule 34 = .ok (.iinc 3 1, 3) := by decide +kernel
theorem dX9_sizeOfModule_37 : decode cX9_sizeOfModule 37 = .ok (.goto (-33), 3) := by decide +kernel
theorem dX9_sizeOfModule_40 : decode cX9_sizeOfModule 40 = .ok (.iload_n 2, 1) := by decide +kernel
theorem dX9_sizeOfModule_41 : decode cX9_sizeOfModule 41 = .ok (.ireturn, 1) := by decide +kernel
theorem dX9_mark_0 : decode cX9_mark 0 = .ok (.iconst 0, 1) := by decide +kernel
theorem dX9_mark_1 : decode cX9_mark 1 = .ok (.istore_n 2, 1) := by decide +kernel
theorem dX9_mark_2 : decode cX9_mark 2 = .ok (.iload_n 2, 1) := by decide +kernel
theorem dX9_mark_3 : decode cX9_mark 3 = .ok (.aload_n 0, 1) := by decide +kernel
theorem dX9_mark_4 : decode cX9_mark 4 = .ok (.getfield 90, 3) := by decide +kernel
theorem dX9_mark_7 : decode cX9_mark 7 = .ok (.if_icmp .ge 16, 3) := by decide +kernel
theorem dX9_mark_10 : decode cX9_mark 10 = .ok (.aload_n 0, 1) := by decide +kernel
theorem dX9_mark_11 : decode cX9_mark 11 = .ok (.getfield 65, 3) := by decide +kernel
theorem dX9_mark_14 : decode cX9_mark 14 = .ok (.iload_n 2, 1) := by decide +kernel
theorem dX9_mark_15 : decode cX9_mark 15 = .ok (.iconst 0, 1) := by decide +kernel
theorem dX9_mark_16 : decode cX9_mark 16 = .ok (.bastore, 1) := by decide +kernel
theorem dX9_mark_17 : decode cX9_mark 17 = .ok (.iinc 2 1, 3) := by decide +kernel
theorem dX9_mark_20 : decode cX9_mark 20 = .ok (.goto (-18), 3) := by decide +kernel
theorem dX9_mark_23 : decode cX9_mark 23 = .ok (.iconst 1, 1) := by decide +kernel
theorem dX9_mark_24 : decode cX9_mark 24 = .ok (.istore_n 2, 1) := by decide +kernel
theorem dX9_mark_25 : decode cX9_mark 25 = .ok (.iload_n 2, 1) := by decide +kernel
theorem dX9_mark_26 : decode cX9_mark 26 = .ok (.ifCond .eq 114, 3) := by decide +kernel
theorem dX9_mark_29 : decode cX9_mark 29 = .ok (.iconst 0, 1) := by decide +kernel
theorem dX9_mark_30 : decode cX9_mark 30 = .ok (.istore_n 2, 1) := by decide +kernel
theorem dX9_mark_31 : decode cX9_mark 31 = .ok (.iconst 0, 1) := by decide +kernel
theorem dX9_mark_32 : decode cX9_mark 32 = .ok (.istore_n 3, 1) := by decide +kernel
theorem dX9_mark_33 : decode cX9_mark 33 = .ok (.iload_n 3, 1) := by decide +kernel
theorem dX9_mark_34 : decode cX9_mark 34 = .ok (.aload_n 0, 1) := by decide +kernel
theorem dX9_mark_35 : decode cX9_mark 35 = .ok (.getfield 90, 3) := by decide +kernel
theorem dX9_mark_38 : decode cX9_mark 38 = .ok (.if_icmp .ge 99, 3) := by decide +kernel
theorem dX9_mark_41 : decode cX9_mark 41 = .ok (.iconst 0, 1) := by decide +kernel
theorem dX9_mark_42 : decode cX9_mark 42 = .ok (.istore 4, 2) := by decide +kernel
theorem dX9_mark_44 : decode cX9_mark 44 = .ok (.iload 4, 2) := by decide +kernel
theorem dX9_mark_46 : decode cX9_mark 46 = .ok (.aload_n 0, 1) := by decide +kernel
theorem dX9_mark_47 : decode cX9_mark 47 = .ok (.getfield 23, 3) := by decide +kernel
theorem dX9_mark_50 : decode cX9_mark 50 = .ok (.iload_n 3, 1) := by decide +kernel
theorem dX9_mark_51 : decode cX9_mark 51 = .ok (.iaload, 1) := by decide +kernel
theorem dX9_mark_52 : decode cX9_mark 52 = .ok (.if_icmp .ge 79, 3) := by decide +kernel
theorem dX9_mark_55 : decode cX9_mark 55 = .ok (.iload_n 3, 1) := by decide +kernel
theorem dX9_mark_56 : decode cX9_mark 56 = .ok (.iload_n 1, 1) := by decide +kernel
theorem dX9_mark_57 : decode cX9_mark 57 = .ok (.if_icmp .eq 12, 3) := by decide +kernel
theorem dX9_mark_60 : decode cX9_mark 60 = .ok (.aload_n 0, 1) := by decide +kernel
theorem dX9_mark_61 : decode cX9_mark 61 = .ok (.getfield 65, 3) := by decide +kernel
theorem dX9_mark_64 : decode cX9_mark 64 = .ok (.iload_n 3, 1) := by decide +kernel
theorem dX9_mark_65 : decode cX9_mark 65 = .ok (.baload, 1) := by decide +kernel
theorem dX9_mark_66 : decode cX9_mark 66 = .ok (.ifCond .eq 65, 3) := by decide +kernel
theorem dX9_mark_69 : decode cX9_mark 69 = .ok (.aload_n 0, 1) := by decide +kernel
theorem dX9_mark_70 : decode cX9_mark 70 = .ok (.getfield 26, 3) := by decide +kernel
theorem dX9_mark_73 : decode cX9_mark 73 = .ok (.bipush 40, 2) := by decide +kernel
theorem dX9_mark_75 : decode cX9_mark 75 = .ok (.iload_n 3, 1) := by decide +kernel
theorem dX9_mark_76 : decode cX9_mark 76 = .ok (.imul, 1) := by decide +kernel
theorem dX9_mark_77 : decode cX9_mark 77 = .ok (.iload 4, 2) := by decide +kernel
theorem dX9_mark_79 : decode cX9_mark 79 = .ok (.iadd, 1) := by decide +kernel
theorem dX9_mark_80 : decode cX9_mark 80 = .ok (.iaload, 1) := by decide +kernel
theorem dX9_mark_81 : decode cX9_mark 81 = .ok (.iconst 5, 1) := by decide +kernel
theorem dX9_mark_82 : decode cX9_mark 82 = .ok (.if_icmp .ne 43, 3) := by decide +kernel
theorem dX9_mark_85 : decode cX9_mark 85 = .ok (.aload_n 0, 1) := by decide +kernel
theorem dX9_mark_86 : decode cX9_mark 86 = .ok (.getfield 65, 3) := by decide +kernel
theorem dX9_mark_89 : decode cX9_mark 89 = .ok (.aload_n 0, 1) := by decide +kernel
theorem dX9_mark_90 : decode cX9_mark 90 = .ok (.getfield 29, 3) := by decide +kernel
theorem dX9_mark_93 : decode cX9_mark 93 = .ok (.bipush 40, 2) := by decide +kernel
theorem dX9_mark_95 : decode cX9_mark 95 = .ok (.iload_n 3, 1) := by decide +kernel
theorem dX9_mark_96 : decode cX9_mark 96 = .ok (.imul, 1) := by decide +kernel
theorem dX9_mark_97 : decode cX9_mark 97 = .ok (.iload 4, 2) := by decide +kernel
theorem dX9_mark_99 : decode cX9_mark 99 = .ok (.iadd, 1) := by decide +kernel
theorem dX9_mark_100 : decode cX9_mark 100 = .ok (.iaload, 1) := by decide +kernel
theorem dX9_mark_101 : decode cX9_mark 101 = .ok (.baload, 1) := by decide +kernel
theorem dX9_mark_102 : decode cX9_mark 102 = .ok (.ifCond .ne 23, 3) := by decide +kernel
theorem dX9_mark_105 : decode cX9_mark 105 = .ok (.aload_n 0, 1) := by decide +kernel
theorem dX9_mark_106 : decode cX9_mark 106 = .ok (.getfield 65, 3) := by decide +kernel
theorem dX9_mark_109 : decode cX9_mark 109 = .ok (.aload_n 0, 1) := by decide +kernel
theorem dX9_mark_110 : decode cX9_mark 110 = .ok (.getfield 29, 3) := by decide +kernel
theorem dX9_mark_113 : decode cX9_mark 113 = .ok (.bipush 40, 2) := by decide +kernel
theorem dX9_mark_115 : decode cX9_mark 115 = .ok (.iload_n 3, 1) := by decide +kernel
theorem dX9_mark_116 : decode cX9_mark 116 = .ok (.imul, 1) := by decide +kernel
theorem dX9_mark_117 : decode cX9_mark 117 = .ok (.iload 4, 2) := by decide +kernel
theorem dX9_mark_119 : decode cX9_mark 119 = .ok (.iadd, 1) := by decide +kernel
theorem dX9_mark_120 : decode cX9_mark 120 = .ok (.iaload, 1) := by decide +kernel
theorem dX9_mark_121 : decode cX9_mark 121 = .ok (.iconst 1, 1) := by decide +kernel
theorem dX9_mark_122 : decode cX9_mark 122 = .ok (.bastore, 1) := by decide +kernel
theorem dX9_mark_123 : decode cX9_mark 123 = .ok (.iconst 1, 1) := by decide +kernel
theorem dX9_mark_124 : decode cX9_mark 124 = .ok (.istore_n 2, 1) := by decide +kernel
theorem dX9_mark_125 : decode cX9_mark 125 = .ok (.iinc 4 1, 3) := by decide +kernel
theorem dX9_mark_128 : decode cX9_mark 128 = .ok (.goto (-84), 3) := by decide +kernel
theorem dX9_mark_131 : decode cX9_mark 131 = .ok (.iinc 3 1, 3) := by decide +kernel
theorem dX9_mark_134 : decode cX9_mark 134 = .ok (.goto (-101), 3) := by decide +kernel
theorem dX9_mark_137 : decode cX9_mark 137 = .ok (.goto (-112), 3) := by decide +kernel
theorem dX9_mark_140 : decode cX9_mark 140 = .ok (.return_, 1) := by decide +kernel
theorem dX9_leads_0 : decode cX9_leads 0 = .ok (.aload_n 0, 1) := by decide +kernel
theorem dX9_leads_1 : decode cX9_leads 1 = .ok (.iconst 0, 1) := by decide +kernel
theorem dX9_leads_2 : decode cX9_leads 2 = .ok (.putfield 1, 3) := by decide +kernel
theorem dX9_leads_5 : decode cX9_leads 5 = .ok (.aload_n 0, 1) := by decide +kernel
theorem dX9_leads_6 : decode cX9_leads 6 = .ok (.iload_n 1, 1) := by decide +kernel
theorem dX9_leads_7 : decode cX9_leads 7 = .ok (.invokevirtual 108, 3) := by decide +kernel
theorem dX9_leads_10 : decode cX9_leads 10 = .ok (.ifCond .eq 11, 3) := by decide +kernel
theorem dX9_leads_13 : decode cX9_leads 13 = .ok (.aload_n 0, 1) := by decide +kernel
theorem dX9_leads_14 : decode cX9_leads 14 = .ok (.iload_n 2, 1) := by decide +kernel
theorem dX9_leads_15 : decode cX9_leads 15 = .ok (.invokevirtual 108, 3) := by decide +kernel
theorem dX9_leads_18 : decode cX9_leads 18 = .ok (.ifCond .ne 6, 3) := by decide +kernel
theorem dX9_leads_21 : decode cX9_leads 21 = .ok (.bipush (-2), 2) := by decide +kernel
theorem dX9_leads_23 : decode cX9_leads 23 = .ok (.ireturn, 1) := by decide +kernel
theorem dX9_leads_24 : decode cX9_leads 24 = .ok (.aload_n 0, 1) := by decide +kernel
theorem dX9_leads_25 : decode cX9_leads 25 = .ok (.iload_n 1, 1) := by decide +kernel
theorem dX9_leads_26 : decode cX9_leads 26 = .ok (.invokevirtual 137, 3) := by decide +kernel
theorem dX9_leads_29 : decode cX9_leads 29 = .ok (.aload_n 0, 1) := by decide +kernel
theorem dX9_leads_30 : decode cX9_leads 30 = .ok (.getfield 65, 3) := by decide +kernel
theorem dX9_leads_33 : decode cX9_leads 33 = .ok (.iload_n 2, 1) := by decide +kernel
theorem dX9_leads_34 : decode cX9_leads 34 = .ok (.baload, 1) := by decide +kernel
theorem dX9_leads_35 : decode cX9_leads 35 = .ok (.ifCond .eq 7, 3) := by decide +kernel
theorem dX9_leads_38 : decode cX9_leads 38 = .ok (.iconst 1, 1) := by decide +kernel
theorem dX9_leads_39 : decode cX9_leads 39 = .ok (.goto 4, 3) := by decide +kernel
theorem dX9_leads_42 : decode cX9_leads 42 = .ok (.iconst 0, 1) := by decide +kernel
theorem dX9_leads_43 : decode cX9_leads 43 = .ok (.ireturn, 1) := by decide +kernel
theorem dX9_isCommon_0 : decode cX9_isCommon 0 = .ok (.aload_n 0, 1) := by decide +kernel
theorem dX9_isCommon_1 : decode cX9_isCommon 1 = .ok (.getfield 13, 3) := by decide +kernel
theorem dX9_isCommon_4 : decode cX9_isCommon 4 = .ok (.aload_n 0, 1) := by decide +kernel
theorem dX9_isCommon_5 : decode cX9_isCommon 5 = .ok (.getfield 17, 3) := by decide +kernel
theorem dX9_isCommon_8 : decode cX9_isCommon 8 = .ok (.iload_n 1, 1) := by decide +kernel
theorem dX9_isCommon_9 : decode cX9_isCommon 9 = .ok (.iaload, 1) := by decide +kernel
theorem dX9_isCommon_10 : decode cX9_isCommon 10 = .ok (.iaload, 1) := by decide +kernel
theorem dX9_isCommon_11 : decode cX9_isCommon 11 = .ok (.ifCond .ne 7, 3) := by decide +kernel
theorem dX9_isCommon_14 : decode cX9_isCommon 14 = .ok (.iconst 1, 1) := by decide +kernel
theorem dX9_isCommon_15 : decode cX9_isCommon 15 = .ok (.goto 4, 3) := by decide +kernel
theorem dX9_isCommon_18 : decode cX9_isCommon 18 = .ok (.iconst 0, 1) := by decide +kernel
theorem dX9_isCommon_19 : decode cX9_isCommon 19 = .ok (.ireturn, 1) := by decide +kernel
theorem dX9_isFar_0 : decode cX9_isFar 0 = .ok (.aload_n 0, 1) := by decide +kernel
theorem dX9_isFar_1 : decode cX9_isFar 1 = .ok (.iload_n 2, 1) := by decide +kernel
theorem dX9_isFar_2 : decode cX9_isFar 2 = .ok (.invokevirtual 141, 3) := by decide +kernel
theorem dX9_isFar_5 : decode cX9_isFar 5 = .ok (.ifCond .ne 40, 3) := by decide +kernel
theorem dX9_isFar_8 : decode cX9_isFar 8 = .ok (.aload_n 0, 1) := by decide +kernel
theorem dX9_isFar_9 : decode cX9_isFar 9 = .ok (.iload_n 1, 1) := by decide +kernel
theorem dX9_isFar_10 : decode cX9_isFar 10 = .ok (.invokevirtual 141, 3) := by decide +kernel
theorem dX9_isFar_13 : decode cX9_isFar 13 = .ok (.ifCond .ne 28, 3) := by decide +kernel
theorem dX9_isFar_16 : decode cX9_isFar 16 = .ok (.aload_n 0, 1) := by decide +kernel
theorem dX9_isFar_17 : decode cX9_isFar 17 = .ok (.getfield 35, 3) := by decide +kernel
theorem dX9_isFar_20 : decode cX9_isFar 20 = .ok (.aload_n 0, 1) := by decide +kernel
theorem dX9_isFar_21 : decode cX9_isFar 21 = .ok (.getfield 17, 3) := by decide +kernel
theorem dX9_isFar_24 : decode cX9_isFar 24 = .ok (.iload_n 1, 1) := by decide +kernel
theorem dX9_isFar_25 : decode cX9_isFar 25 = .ok (.iaload, 1) := by decide +kernel
theorem dX9_isFar_26 : decode cX9_isFar 26 = .ok (.iaload, 1) := by decide +kernel
theorem dX9_isFar_27 : decode cX9_isFar 27 = .ok (.aload_n 0, 1) := by decide +kernel
theorem dX9_isFar_28 : decode cX9_isFar 28 = .ok (.getfield 35, 3) := by decide +kernel
theorem dX9_isFar_31 : decode cX9_isFar 31 = .ok (.aload_n 0, 1) := by decide +kernel
theorem dX9_isFar_32 : decode cX9_isFar 32 = .ok (.getfield 17, 3) := by decide +kernel
theorem dX9_isFar_35 : decode cX9_isFar 35 = .ok (.iload_n 2, 1) := by decide +kernel
theorem dX9_isFar_36 : decode cX9_isFar 36 = .ok (.iaload, 1) := by decide +kernel
theorem dX9_isFar_37 : decode cX9_isFar 37 = .ok (.iaload, 1) := by decide +kernel
theorem dX9_isFar_38 : decode cX9_isFar 38 = .ok (.if_icmp .eq 7, 3) := by decide +kernel
theorem dX9_isFar_41 : decode cX9_isFar 41 = .ok (.iconst 1, 1) := by decide +kernel
theorem dX9_isFar_42 : decode cX9_isFar 42 = .ok (.goto 4, 3) := by decide +kernel
theorem dX9_isFar_45 : decode cX9_isFar 45 = .ok (.iconst 0, 1) := by decide +kernel
theorem dX9_isFar_46 : decode cX9_isFar 46 = .ok (.ireturn, 1) := by decide +kernel
theorem dX9_told_0 : decode cX9_told 0 = .ok (.aload_n 0, 1) := by decide +kernel
theorem dX9_told_1 : decode cX9_told 1 = .ok (.iload_n 1, 1) := by decide +kernel
theorem dX9_told_2 : decode cX9_told 2 = .ok (.putfield 144, 3) := by decide +kernel
theorem dX9_told_5 : decode cX9_told 5 = .ok (.aload_n 0, 1) := by decide +kernel
theorem dX9_told_6 : decode cX9_told 6 = .ok (.iload_n 2, 1) := by decide +kernel
theorem dX9_told_7 : decode cX9_told 7 = .ok (.putfield 59, 3) := by decide +kernel
theorem dX9_told_10 : decode cX9_told 10 = .ok (.aload_n 0, 1) := by decide +kernel
theorem dX9_told_11 : decode cX9_told 11 = .ok (.iload_n 3, 1) := by decide +kernel
theorem dX9_told_12 : decode cX9_told 12 = .ok (.putfield 62, 3) := by decide +kernel
theorem dX9_told_15 : decode cX9_told 15 = .ok (.iconst 0, 1) := by decide +kernel
theorem dX9_told_16 : decode cX9_told 16 = .ok (.ireturn, 1) := by decide +kernel
theorem dX9_fault_0 : decode cX9_fault 0 = .ok (.aload_n 0, 1) := by decide +kernel
theorem dX9_fault_1 : decode cX9_fault 1 = .ok (.iconst 0, 1) := by decide +kernel
theorem dX9_fault_2 : decode cX9_fault 2 = .ok (.putfield 1, 3) := by decide +kernel
theorem dX9_fault_5 : decode cX9_fault 5 = .ok (.iload_n 1, 1) := by decide +kernel
theorem dX9_fault_6 : decode cX9_fault 6 = .ok (.ifCond .ne 10, 3) := by decide +kernel
theorem dX9_fault_9 : decode cX9_fault 9 = .ok (.aload_n 0, 1) := by decide +kernel
theorem dX9_fault_10 : decode cX9_fault 10 = .ok (.getfield 144, 3) := by decide +kernel
theorem dX9_fault_13 : decode cX9_fault 13 = .ok (.goto 29, 3) := by decide +kernel
theorem dX9_fault_16 : decode cX9_fault 16 = .ok (.iload_n 1, 1) := by decide +kernel
theorem dX9_fault_17 : decode cX9_fault 17 = .ok (.iconst 1, 1) := by decide +kernel
theorem dX9_fault_18 : decode cX9_fault 18 = .ok (.if_icmp .ne 10, 3) := by decide +kernel
theorem dX9_fault_21 : decode cX9_fault 21 = .ok (.aload_n 0, 1) := by decide +kernel
theorem dX9_fault_22 : decode cX9_fault 22 = .ok (.getfield 59, 3) := by decide +kernel
theorem dX9_fault_25 : decode cX9_fault 25 = .ok (.goto 17, 3) := by decide +kernel
theorem dX9_fault_28 : decode cX9_fault 28 = .ok (.iload_n 1, 1) := by decide +kernel
theorem dX9_fault_29 : decode cX9_fault 29 = .ok (.iconst 2, 1) := by decide +kernel
theorem dX9_fault_30 : decode cX9_fault 30 = .ok (.if_icmp .ne 10, 3) := by decide +kernel
theorem dX9_fault_33 : decode cX9_fault 33 = .ok (.aload_n 0, 1) := by decide +kernel
theorem dX9_fault_34 : decode cX9_fault 34 = .ok (.getfield 62, 3) := by decide +kernel
theorem dX9_fault_37 : decode cX9_fault 37 = .ok (.goto 5, 3) := by decide +kernel
theorem dX9_fault_40 : decode cX9_fault 40 = .ok (.bipush (-2), 2) := by decide +kernel
theorem dX9_fault_42 : decode cX9_fault 42 = .ok (.ireturn, 1) := by decide +kernel
theorem dX9_place_0 : decode cX9_place 0 = .ok (.aload_n 0, 1) := by decide +kernel
theorem dX9_place_1 : decode cX9_place 1 = .ok (.iconst 0, 1) := by decide +kernel
theorem dX9_place_2 : decode cX9_place 2 = .ok (.putfield 1, 3) := by decide +kernel
theorem dX9_place_5 : decode cX9_place 5 = .ok (.aload_n 0, 1) := by decide +kernel
theorem dX9_place_6 : decode cX9_place 6 = .ok (.iload_n 1, 1) := by decide +kernel
theorem dX9_place_7 : decode cX9_place 7 = .ok (.invokevirtual 108, 3) := by decide +kernel
theorem dX9_place_10 : decode cX9_place 10 = .ok (.ifCond .eq 15, 3) := by decide +kernel
theorem dX9_place_13 : decode cX9_place 13 = .ok (.iload_n 2, 1) := by decide +kernel
theorem dX9_place_14 : decode cX9_place 14 = .ok (.i2l, 1) := by decide +kernel
theorem dX9_place_15 : decode cX9_place 15 = .ok (.lconst 0, 1) := by decide +kernel
theorem dX9_place_16 : decode cX9_place 16 = .ok (.ldc2_w 189, 3) := by decide +kernel
theorem dX9_place_19 : decode cX9_place 19 = .ok (.invokestatic 93, 3) := by decide +kernel
theorem dX9_place_22 : decode cX9_place 22 = .ok (.ifCond .ne 6, 3) := by decide +kernel
theorem dX9_place_25 : decode cX9_place 25 = .ok (.bipush (-2), 2) := by decide +kernel
theorem dX9_place_27 : decode cX9_place 27 = .ok (.ireturn, 1) := by decide +kernel
theorem dX9_place_28 : decode cX9_place 28 = .ok (.aload_n 0, 1) := by decide +kernel
theorem dX9_place_29 : decode cX9_place 29 = .ok (.getfield 100, 3) := by decide +kernel
theorem dX9_place_32 : decode cX9_place 32 = .ok (.ifCond .ne 6, 3) := by decide +kernel
theorem dX9_place_35 : decode cX9_place 35 = .ok (.bipush (-3), 2) := by decide +kernel
theorem dX9_place_37 : decode cX9_place 37 = .ok (.ireturn, 1) := by decide +kernel
theorem dX9_place_38 : decode cX9_place 38 = .ok (.iload_n 2, 1) := by decide +kernel
theorem dX9_place_39 : decode cX9_place 39 = .ok (.ifCond .ne 29, 3) := by decide +kernel
theorem dX9_place_42 : decode cX9_place 42 = .ok (.aload_n 0, 1) := by decide +kernel
theorem dX9_place_43 : decode cX9_place 43 = .ok (.iload_n 1, 1) := by decide +kernel
theorem dX9_place_44 : decode cX9_place 44 = .ok (.invokevirtual 141, 3) := by decide +kernel
theorem dX9_place_47 : decode cX9_place 47 = .ok (.ifCond .eq 7, 3) := by decide +kernel
theorem dX9_place_50 : decode cX9_place 50 = .ok (.iconst (-1), 1) := by decide +kernel
theorem dX9_place_51 : decode cX9_place 51 = .ok (.goto 78, 3) := by decide +kernel
theorem dX9_place_54 : decode cX9_place 54 = .ok (.aload_n 0, 1) := by decide +kernel
theorem dX9_place_55 : decode cX9_place 55 = .ok (.getfield 35, 3) := by decide +kernel
theorem dX9_place_58 : decode cX9_place 58 = .ok (.aload_n 0, 1) := by decide +kernel
theorem dX9_place_59 : decode cX9_place 59 = .ok (.getfield 17, 3) := by decide +kernel
theorem dX9_place_62 : decode cX9_place 62 = .ok (.iload_n 1, 1) := by decide +kernel
theorem dX9_place_63 : decode cX9_place 63 = .ok (.iaload, 1) := by decide +kernel
theorem dX9_place_64 : decode cX9_place 64 = .ok (.iaload, 1) := by decide +kernel
theorem dX9_place_65 : decode cX9_place 65 = .ok (.goto 64, 3) := by decide +kernel
theorem dX9_place_68 : decode cX9_place 68 = .ok (.iload_n 2, 1) := by decide +kernel
theorem dX9_place_69 : decode cX9_place 69 = .ok (.iconst 1, 1) := by decide +kernel
theorem dX9_place_70 : decode cX9_place 70 = .ok (.if_icmp .ne 12, 3) := by decide +kernel
theorem dX9_place_73 : decode cX9_place 73 = .ok (.aload_n 0, 1) := by decide +kernel
theorem dX9_place_74 : decode cX9_place 74 = .ok (.getfield 41, 3) := by decide +kernel
theorem dX9_place_77 : decode cX9_place 77 = .ok (.iload_n 1, 1) := by decide +kernel
theorem dX9_place_78 : decode cX9_place 78 = .ok (.iaload, 1) := by decide +kernel
theorem dX9_place_79 : decode cX9_place 79 = .ok (.goto 50, 3) := by decide +kernel
theorem dX9_place_82 : decode cX9_place 82 = .ok (.iload_n 2, 1) := by decide +kernel
theorem dX9_place_83 : decode cX9_place 83 = .ok (.iconst 2, 1) := by decide +kernel
theorem dX9_place_84 : decode cX9_place 84 = .ok (.if_icmp .ne 12, 3) := by decide +kernel
theorem dX9_place_87 : decode cX9_place 87 = .ok (.aload_n 0, 1) := by decide +kernel
theorem dX9_place_88 : decode cX9_place 88 = .ok (.getfield 44, 3) := by decide +kernel
theorem dX9_place_91 : decode cX9_place 91 = .ok (.iload_n 1, 1) := by decide +kernel
theorem dX9_place_92 : decode cX9_place 92 = .ok (.iaload, 1) := by decide +kernel
theorem dX9_place_93 : decode cX9_place 93 = .ok (.goto 36, 3) := by decide +kernel
theorem dX9_place_96 : decode cX9_place 96 = .ok (.iload_n 2, 1) := by decide +kernel
theorem dX9_place_97 : decode cX9_place 97 = .ok (.iconst 3, 1) := by decide +kernel
theorem dX9_place_98 : decode cX9_place 98 = .ok (.if_icmp .ne 12, 3) := by decide +kernel
theorem dX9_place_101 : decode cX9_place 101 = .ok (.aload_n 0, 1) := by decide +kernel
theorem dX9_place_102 : decode cX9_place 102 = .ok (.getfield 47, 3) := by decide +kernel
theorem dX9_place_105 : decode cX9_place 105 = .ok (.iload_n 1, 1) := by decide +kernel
theorem dX9_place_106 : decode cX9_place 106 = .ok (.iaload, 1) := by decide +kernel
theorem dX9_place_107 : decode cX9_place 107 = .ok (.goto 22, 3) := by decide +kernel
theorem dX9_place_110 : decode cX9_place 110 = .ok (.iload_n 2, 1) := by decide +kernel
theorem dX9_place_111 : decode cX9_place 111 = .ok (.iconst 4, 1) := by decide +kernel
theorem dX9_place_112 : decode cX9_place 112 = .ok (.if_icmp .ne 12, 3) := by decide +kernel
theorem dX9_place_115 : decode cX9_place 115 = .ok (.aload_n 0, 1) := by decide +kernel
theorem dX9_place_116 : decode cX9_place 116 = .ok (.getfield 50, 3) := by decide +kernel
theorem dX9_place_119 : decode cX9_place 119 = .ok (.iload_n 1, 1) := by decide +kernel
theorem dX9_place_120 : decode cX9_place 120 = .ok (.iaload, 1) := by decide +kernel
theorem dX9_place_121 : decode cX9_place 121 = .ok (.goto 8, 3) := by decide +kernel
theorem dX9_place_124 : decode cX9_place 124 = .ok (.aload_n 0, 1) := by decide +kernel
theorem dX9_place_125 : decode cX9_place 125 = .ok (.iload_n 1, 1) := by decide +kernel
theorem dX9_place_126 : decode cX9_place 126 = .ok (.invokevirtual 134, 3) := by decide +kernel
theorem dX9_place_129 : decode cX9_place 129 = .ok (.ireturn, 1) := by decide +kernel
theorem dX9_image_0 : decode cX9_image 0 = .ok (.aload_n 0, 1) := by decide +kernel
theorem dX9_image_1 : decode cX9_image 1 = .ok (.iconst 0, 1) := by decide +kernel
theorem dX9_image_2 : decode cX9_image 2 = .ok (.putfield 1, 3) := by decide +kernel
theorem dX9_image_5 : decode cX9_image 5 = .ok (.iload_n 1, 1) := by decide +kernel
theorem dX9_image_6 : decode cX9_image 6 = .ok (.iconst (-1), 1) := by decide +kernel
theorem dX9_image_7 : decode cX9_image 7 = .ok (.if_icmp .eq 24, 3) := by decide +kernel
theorem dX9_image_10 : decode cX9_image 10 = .ok (.iload_n 1, 1) := by decide +kernel
theorem dX9_image_11 : decode cX9_image 11 = .ok (.i2l, 1) := by decide +kernel
theorem dX9_image_12 : decode cX9_image 12 = .ok (.lconst 0, 1) := by decide +kernel
theorem dX9_image_13 : decode cX9_image 13 = .ok (.aload_n 0, 1) := by decide +kernel
theorem dX9_image_14 : decode cX9_image 14 = .ok (.getfield 32, 3) := by decide +kernel
theorem dX9_image_17 : decode cX9_image 17 = .ok (.iconst 0, 1) := by decide +kernel
theorem dX9_image_18 : decode cX9_image 18 = .ok (.iaload, 1) := by decide +kernel
theorem dX9_image_19 : decode cX9_image 19 = .ok (.iconst 1, 1) := by decide +kernel
theorem dX9_image_20 : decode cX9_image 20 = .ok (.isub, 1) := by decide +kernel
theorem dX9_image_21 : decode cX9_image 21 = .ok (.i2l, 1) := by decide +kernel
theorem dX9_image_22 : decode cX9_image 22 = .ok (.invokestatic 93, 3) := by decide +kernel
theorem dX9_image_25 : decode cX9_image 25 = .ok (.ifCond .ne 6, 3) := by decide +kernel
theorem dX9_image_28 : decode cX9_image 28 = .ok (.bipush (-2), 2) := by decide +kernel
theorem dX9_image_30 : decode cX9_image 30 = .ok (.ireturn, 1) := by decide +kernel
theorem dX9_image_31 : decode cX9_image 31 = .ok (.aload_n 0, 1) := by decide +kernel
theorem dX9_image_32 : decode cX9_image 32 = .ok (.getfield 100, 3) := by decide +kernel
theorem dX9_image_35 : decode cX9_image 35 = .ok (.ifCond .ne 6, 3) := by decide +kernel
theorem dX9_image_38 : decode cX9_image 38 = .ok (.bipush (-3), 2) := by decide +kernel
theorem dX9_image_40 : decode cX9_image 40 = .ok (.ireturn, 1) := by decide +kernel
theorem dX9_image_41 : decode cX9_image 41 = .ok (.iload_n 2, 1) := by decide +kernel
theorem dX9_image_42 : decode cX9_image 42 = .ok (.i2l, 1) := by decide +kernel
theorem dX9_image_43 : decode cX9_image 43 = .ok (.lconst 0, 1) := by decide +kernel
theorem dX9_image_44 : decode cX9_image 44 = .ok (.iload_n 1, 1) := by decide +kernel
theorem dX9_image_45 : decode cX9_image 45 = .ok (.iconst (-1), 1) := by decide +kernel
theorem dX9_image_46 : decode cX9_image 46 = .ok (.if_icmp .ne 10, 3) := by decide +kernel
theorem dX9_image_49 : decode cX9_image 49 = .ok (.aload_n 0, 1) := by decide +kernel
theorem dX9_image_50 : decode cX9_image 50 = .ok (.getfield 153, 3) := by decide +kernel
theorem dX9_image_53 : decode cX9_image 53 = .ok (.goto 9, 3) := by decide +kernel
theorem dX9_image_56 : decode cX9_image 56 = .ok (.aload_n 0, 1) := by decide +kernel
theorem dX9_image_57 : decode cX9_image 57 = .ok (.getfield 38, 3) := by decide +kernel
theorem dX9_image_60 : decode cX9_image 60 = .ok (.iload_n 1, 1) := by decide +kernel
theorem dX9_image_61 : decode cX9_image 61 = .ok (.iaload, 1) := by decide +kernel
theorem dX9_image_62 : decode cX9_image 62 = .ok (.iconst 1, 1) := by decide +kernel
theorem dX9_image_63 : decode cX9_image 63 = .ok (.isub, 1) := by decide +kernel
theorem dX9_image_64 : decode cX9_image 64 = .ok (.i2l, 1) := by decide +kernel
theorem dX9_image_65 : decode cX9_image 65 = .ok (.invokestatic 93, 3) := by decide +kernel
theorem dX9_image_68 : decode cX9_image 68 = .ok (.ifCond .ne 7, 3) := by decide +kernel
theorem dX9_image_71 : decode cX9_image 71 = .ok (.iconst (-1), 1) := by decide +kernel
theorem dX9_image_72 : decode cX9_image 72 = .ok (.goto 29, 3) := by decide +kernel
theorem dX9_image_75 : decode cX9_image 75 = .ok (.iload_n 1, 1) := by decide +kernel
theorem dX9_image_76 : decode cX9_image 76 = .ok (.iconst (-1), 1) := by decide +kernel
theorem dX9_image_77 : decode cX9_image 77 = .ok (.if_icmp .ne 12, 3) := by decide +kernel
theorem dX9_image_80 : decode cX9_image 80 = .ok (.aload_n 0, 1) := by decide +kernel
theorem dX9_image_81 : decode cX9_image 81 = .ok (.getfield 53, 3) := by decide +kernel
theorem dX9_image_84 : decode cX9_image 84 = .ok (.iload_n 2, 1) := by decide +kernel
theorem dX9_image_85 : decode cX9_image 85 = .ok (.iaload, 1) := by decide +kernel
theorem dX9_image_86 : decode cX9_image 86 = .ok (.goto 15, 3) := by decide +kernel
theorem dX9_image_89 : decode cX9_image 89 = .ok (.aload_n 0, 1) := by decide +kernel
theorem dX9_image_90 : decode cX9_image 90 = .ok (.getfield 56, 3) := by decide +kernel
theorem dX9_image_93 : decode cX9_image 93 = .ok (.sipush 250, 3) := by decide +kernel
theorem dX9_image_96 : decode cX9_image 96 = .ok (.iload_n 1, 1) := by decide +kernel
theorem dX9_image_97 : decode cX9_image 97 = .ok (.imul, 1) := by decide +kernel
theorem dX9_image_98 : decode cX9_image 98 = .ok (.iload_n 2, 1) := by decide +kernel
theorem dX9_image_99 : decode cX9_image 99 = .ok (.iadd, 1) := by decide +kernel
theorem dX9_image_100 : decode cX9_image 100 = .ok (.iaload, 1) := by decide +kernel
theorem dX9_image_101 : decode cX9_image 101 = .ok (.ireturn, 1) := by decide +kernel
theorem dX9_count_0 : decode cX9_count 0 = .ok (.aload_n 0, 1) := by decide +kernel
theorem dX9_count_1 : decode cX9_count 1 = .ok (.iconst 0, 1) := by decide +kernel
theorem dX9_count_2 : decode cX9_count 2 = .ok (.putfield 1, 3) := by decide +kernel
theorem dX9_count_5 : decode cX9_count 5 = .ok (.iload_n 1, 1) := by decide +kernel
theorem dX9_count_6 : decode cX9_count 6 = .ok (.i2l, 1) := by decide +kernel
theorem dX9_count_7 : decode cX9_count 7 = .ok (.lconst 0, 1) := by decide +kernel
theorem dX9_count_8 : decode cX9_count 8 = .ok (.ldc2_w 191, 3) := by decide +kernel
theorem dX9_count_11 : decode cX9_count 11 = .ok (.invokestatic 93, 3) := by decide +kernel
theorem dX9_count_14 : decode cX9_count 14 = .ok (.ifCond .ne 6, 3) := by decide +kernel
theorem dX9_count_17 : decode cX9_count 17 = .ok (.bipush (-2), 2) := by decide +kernel
theorem dX9_count_19 : decode cX9_count 19 = .ok (.ireturn, 1) := by decide +kernel
theorem dX9_count_20 : decode cX9_count 20 = .ok (.iload_n 1, 1) := by decide +kernel
theorem dX9_count_21 : decode cX9_count 21 = .ok (.iconst 2, 1) := by decide +kernel
theorem dX9_count_22 : decode cX9_count 22 = .ok (.if_icmp .le 13, 3) := by decide +kernel
theorem dX9_count_25 : decode cX9_count 25 = .ok (.aload_n 0, 1) := by decide +kernel
theorem dX9_count_26 : decode cX9_count 26 = .ok (.getfield 100, 3) := by decide +kernel
theorem dX9_count_29 : decode cX9_count 29 = .ok (.ifCond .ne 6, 3) := by decide +kernel
theorem dX9_count_32 : decode cX9_count 32 = .ok (.bipush (-3), 2) := by decide +kernel
theorem dX9_count_34 : decode cX9_count 34 = .ok (.ireturn, 1) := by decide +kernel
theorem dX9_count_35 : decode cX9_count 35 = .ok (.iconst 0, 1) := by decide +kernel
theorem dX9_count_36 : decode cX9_count 36 = .ok (.istore_n 2, 1) := by decide +kernel
theorem dX9_count_37 : decode cX9_count 37 = .ok (.iload_n 1, 1) := by decide +kernel
theorem dX9_count_38 : decode cX9_count 38 = .ok (.tableswitch 179 0 6 #[42, 47, 52, 79, 84, 89, 126], 42) := by decide +kernel
theorem dX9_count_80 : decode cX9_count 80 = .ok (.aload_n 0, 1) := by decide +kernel
theorem dX9_count_81 : decode cX9_count 81 = .ok (.getfield 97, 3) := by decide +kernel
theorem dX9_count_84 : decode cX9_count 84 = .ok (.ireturn, 1) := by decide +kernel
theorem dX9_count_85 : decode cX9_count 85 = .ok (.aload_n 0, 1) := by decide +kernel
theorem dX9_count_86 : decode cX9_count 86 = .ok (.getfield 90, 3) := by decide +kernel
theorem dX9_count_89 : decode cX9_count 89 = .ok (.ireturn, 1) := by decide +kernel
theorem dX9_count_90 : decode cX9_count 90 = .ok (.iconst 0, 1) := by decide +kernel
theorem dX9_count_91 : decode cX9_count 91 = .ok (.istore_n 3, 1) := by decide +kernel
theorem dX9_count_92 : decode cX9_count 92 = .ok (.iload_n 3, 1) := by decide +kernel
theorem dX9_count_93 : decode cX9_count 93 = .ok (.aload_n 0, 1) := by decide +kernel
theorem dX9_count_94 : decode cX9_count 94 = .ok (.getfield 90, 3) := by decide +kernel
theorem dX9_count_97 : decode cX9_count 97 = .ok (.if_icmp .ge 18, 3) := by decide +kernel
theorem dX9_count_100 : decode cX9_count 100 = .ok (.iload_n 2, 1) := by decide +kernel
theorem dX9_count_101 : decode cX9_count 101 = .ok (.aload_n 0, 1) := by decide +kernel
theorem dX9_count_102 : decode cX9_count 102 = .ok (.getfield 23, 3) := by decide +kernel
theorem dX9_count_105 : decode cX9_count 105 = .ok (.iload_n 3, 1) := by decide +kernel
theorem dX9_count_106 : decode cX9_count 106 = .ok (.iaload, 1) := by decide +kernel
theorem dX9_count_107 : decode cX9_count 107 = .ok (.iadd, 1) := by decide +kernel
theorem dX9_count_108 : decode cX9_count 108 = .ok (.istore_n 2, 1) := by decide +kernel
theorem dX9_count_109 : decode cX9_count 109 = .ok (.iinc 3 1, 3) := by decide +kernel
theorem dX9_count_112 : decode cX9_count 112 = .ok (.goto (-20), 3) := by decide +kernel
theorem dX9_count_115 : decode cX9_count 115 = .ok (.iload_n 2, 1) := by decide +kernel
theorem dX9_count_116 : decode cX9_count 116 = .ok (.ireturn, 1) := by decide +kernel
theorem dX9_count_117 : decode cX9_count 117 = .ok (.aload_n 0, 1) := by decide +kernel
theorem dX9_count_118 : decode cX9_count 118 = .ok (.getfield 153, 3) := by decide +kernel
theorem dX9_count_121 : decode cX9_count 121 = .ok (.ireturn, 1) := by decide +kernel
theorem dX9_count_122 : decode cX9_count 122 = .ok (.aload_n 0, 1) := by decide +kernel
theorem dX9_count_123 : decode cX9_count 123 = .ok (.getfield 156, 3) := by decide +kernel
theorem dX9_count_126 : decode cX9_count 126 = .ok (.ireturn, 1) := by decide +kernel
theorem dX9_count_127 : decode cX9_count 127 = .ok (.iconst 0, 1) := by decide +kernel
theorem dX9_count_128 : decode cX9_count 128 = .ok (.istore_n 3, 1) := by decide +kernel
theorem dX9_count_129 : decode cX9_count 129 = .ok (.iload_n 3, 1) := by decide +kernel
theorem dX9_count_130 : decode cX9_count 130 = .ok (.aload_n 0, 1) := by decide +kernel
theorem dX9_count_131 : decode cX9_count 131 = .ok (.getfield 32, 3) := by decide +kernel
theorem dX9_count_134 : decode cX9_count 134 = .ok (.iconst 0, 1) := by decide +kernel
theorem dX9_count_135 : decode cX9_count 135 = .ok (.iaload, 1) := by decide +kernel
theorem dX9_count_136 : decode cX9_count 136 = .ok (.if_icmp .ge 26, 3) := by decide +kernel
theorem dX9_count_139 : decode cX9_count 139 = .ok (.iload_n 2, 1) := by decide +kernel
theorem dX9_count_140 : decode cX9_count 140 = .ok (.aload_n 0, 1) := by decide +kernel
theorem dX9_count_141 : decode cX9_count 141 = .ok (.getfield 38, 3) := by decide +kernel
theorem dX9_count_144 : decode cX9_count 144 = .ok (.iload_n 3, 1) := by decide +kernel
theorem dX9_count_145 : decode cX9_count 145 = .ok (.iaload, 1) := by decide +kernel
theorem dX9_count_146 : decode cX9_count 146 = .ok (.ifCond .le 7, 3) := by decide +kernel
theorem dX9_count_149 : decode cX9_count 149 = .ok (.iconst 1, 1) := by decide +kernel
theorem dX9_count_150 : decode cX9_count 150 = .ok (.goto 4, 3) := by decide +kernel
theorem dX9_count_153 : decode cX9_count 153 = .ok (.iconst 0, 1) := by decide +kernel
theorem dX9_count_154 : decode cX9_count 154 = .ok (.iadd, 1) := by decide +kernel
theorem dX9_count_155 : decode cX9_count 155 = .ok (.istore_n 2, 1) := by decide +kernel
theorem dX9_count_156 : decode cX9_count 156 = .ok (.iinc 3 1, 3) := by decide +kernel
theorem dX9_count_159 : decode cX9_count 159 = .ok (.goto (-30), 3) := by decide +kernel
theorem dX9_count_162 : decode cX9_count 162 = .ok (.iload_n 2, 1) := by decide +kernel
theorem dX9_count_163 : decode cX9_count 163 = .ok (.ireturn, 1) := by decide +kernel
theorem dX9_count_164 : decode cX9_count 164 = .ok (.iconst 0, 1) := by decide +kernel
theorem dX9_count_165 : decode cX9_count 165 = .ok (.istore_n 3, 1) := by decide +kernel
theorem dX9_count_166 : decode cX9_count 166 = .ok (.iload_n 3, 1) := by decide +kernel
theorem dX9_count_167 : decode cX9_count 167 = .ok (.aload_n 0, 1) := by decide +kernel
theorem dX9_count_168 : decode cX9_count 168 = .ok (.getfield 90, 3) := by decide +kernel
theorem dX9_count_171 : decode cX9_count 171 = .ok (.if_icmp .ge 44, 3) := by decide +kernel
theorem dX9_count_174 : decode cX9_count 174 = .ok (.aload_n 0, 1) := by decide +kernel
theorem dX9_count_175 : decode cX9_count 175 = .ok (.getfield 47, 3) := by decide +kernel
theorem dX9_count_178 : decode cX9_count 178 = .ok (.iload_n 3, 1) := by decide +kernel
theorem dX9_count_179 : decode cX9_count 179 = .ok (.iaload, 1) := by decide +kernel
theorem dX9_count_180 : decode cX9_count 180 = .ok (.aload_n 0, 1) := by decide +kernel
theorem dX9_count_181 : decode cX9_count 181 = .ok (.getfield 20, 3) := by decide +kernel
theorem dX9_count_184 : decode cX9_count 184 = .ok (.iload_n 3, 1) := by decide +kernel
theorem dX9_count_185 : decode cX9_count 185 = .ok (.iaload, 1) := by decide +kernel
theorem dX9_count_186 : decode cX9_count 186 = .ok (.iadd, 1) := by decide +kernel
theorem dX9_count_187 : decode cX9_count 187 = .ok (.iload_n 2, 1) := by decide +kernel
theorem dX9_count_188 : decode cX9_count 188 = .ok (.if_icmp .le 19, 3) := by decide +kernel
theorem dX9_count_191 : decode cX9_count 191 = .ok (.aload_n 0, 1) := by decide +kernel
theorem dX9_count_192 : decode cX9_count 192 = .ok (.getfield 47, 3) := by decide +kernel
theorem dX9_count_195 : decode cX9_count 195 = .ok (.iload_n 3, 1) := by decide +kernel
theorem dX9_count_196 : decode cX9_count 196 = .ok (.iaload, 1) := by decide +kernel
theorem dX9_count_197 : decode cX9_count 197 = .ok (.aload_n 0, 1) := by decide +kernel
theorem dX9_count_198 : decode cX9_count 198 = .ok (.getfield 20, 3) := by decide +kernel
theorem dX9_count_201 : decode cX9_count 201 = .ok (.iload_n 3, 1) := by decide +kernel
theorem dX9_count_202 : decode cX9_count 202 = .ok (.iaload, 1) := by decide +kernel
theorem dX9_count_203 : decode cX9_count 203 = .ok (.iadd, 1) := by decide +kernel
theorem dX9_count_204 : decode cX9_count 204 = .ok (.goto 4, 3) := by decide +kernel
theorem dX9_count_207 : decode cX9_count 207 = .ok (.iload_n 2, 1) := by decide +kernel
theorem dX9_count_208 : decode cX9_count 208 = .ok (.istore_n 2, 1) := by decide +kernel
theorem dX9_count_209 : decode cX9_count 209 = .ok (.iinc 3 1, 3) := by decide +kernel
theorem dX9_count_212 : decode cX9_count 212 = .ok (.goto (-46), 3) := by decide +kernel
theorem dX9_count_215 : decode cX9_count 215 = .ok (.iload_n 2, 1) := by decide +kernel
theorem dX9_count_216 : decode cX9_count 216 = .ok (.ireturn, 1) := by decide +kernel
theorem dX9_count_217 : decode cX9_count 217 = .ok (.aload_n 0, 1) := by decide +kernel
theorem dX9_count_218 : decode cX9_count 218 = .ok (.getfield 159, 3) := by decide +kernel
theorem dX9_count_221 : decode cX9_count 221 = .ok (.ireturn, 1) := by decide +kernel
theorem dX9_out_0 : decode cX9_out 0 = .ok (.aload_n 0, 1) := by decide +kernel
theorem dX9_out_1 : decode cX9_out 1 = .ok (.iconst 0, 1) := by decide +kernel
theorem dX9_out_2 : decode cX9_out 2 = .ok (.putfield 1, 3) := by decide +kernel
theorem dX9_out_5 : decode cX9_out 5 = .ok (.iload_n 1, 1) := by decide +kernel
theorem dX9_out_6 : decode cX9_out 6 = .ok (.i2l, 1) := by decide +kernel
theorem dX9_out_7 : decode cX9_out 7 = .ok (.lconst 0, 1) := by decide +kernel
theorem dX9_out_8 : decode cX9_out 8 = .ok (.lconst 1, 1) := by decide +kernel
theorem dX9_out_9 : decode cX9_out 9 = .ok (.invokestatic 93, 3) := by decide +kernel
theorem dX9_out_12 : decode cX9_out 12 = .ok (.ifCond .ne 6, 3) := by decide +kernel
theorem dX9_out_15 : decode cX9_out 15 = .ok (.bipush (-2), 2) := by decide +kernel
theorem dX9_out_17 : decode cX9_out 17 = .ok (.ireturn, 1) := by decide +kernel
theorem dX9_out_18 : decode cX9_out 18 = .ok (.iload_n 2, 1) := by decide +kernel
theorem dX9_out_19 : decode cX9_out 19 = .ok (.i2l, 1) := by decide +kernel
theorem dX9_out_20 : decode cX9_out 20 = .ok (.lconst 0, 1) := by decide +kernel
theorem dX9_out_21 : decode cX9_out 21 = .ok (.ldc2_w 229, 3) := by decide +kernel
theorem dX9_out_24 : decode cX9_out 24 = .ok (.invokestatic 93, 3) := by decide +kernel
theorem dX9_out_27 : decode cX9_out 27 = .ok (.ifCond .eq 31, 3) := by decide +kernel
theorem dX9_out_30 : decode cX9_out 30 = .ok (.iload_n 2, 1) := by decide +kernel
theorem dX9_out_31 : decode cX9_out 31 = .ok (.aload_n 0, 1) := by decide +kernel
theorem dX9_out_32 : decode cX9_out 32 = .ok (.getfield 69, 3) := by decide +kernel
theorem dX9_out_35 : decode cX9_out 35 = .ok (.iconst 5, 1) := by decide +kernel
theorem dX9_out_36 : decode cX9_out 36 = .ok (.iload_n 1, 1) := by decide +kernel
theorem dX9_out_37 : decode cX9_out 37 = .ok (.imul, 1) := by decide +kernel
theorem dX9_out_38 : decode cX9_out 38 = .ok (.iconst 2, 1) := by decide +kernel
theorem dX9_out_39 : decode cX9_out 39 = .ok (.iadd, 1) := by decide +kernel
theorem dX9_out_40 : decode cX9_out 40 = .ok (.iaload, 1) := by decide +kernel
theorem dX9_out_41 : decode cX9_out 41 = .ok (.if_icmp .ge 17, 3) := by decide +kernel
theorem dX9_out_44 : decode cX9_out 44 = .ok (.aload_n 0, 1) := by decide +kernel
theorem dX9_out_45 : decode cX9_out 45 = .ok (.getfield 72, 3) := by decide +kernel
theorem dX9_out_48 : decode cX9_out 48 = .ok (.bipush 100, 2) := by decide +kernel
theorem dX9_out_50 : decode cX9_out 50 = .ok (.iload_n 1, 1) := by decide +kernel
theorem dX9_out_51 : decode cX9_out 51 = .ok (.imul, 1) := by decide +kernel
theorem dX9_out_52 : decode cX9_out 52 = .ok (.iload_n 2, 1) := by decide +kernel
theorem dX9_out_53 : decode cX9_out 53 = .ok (.iadd, 1) := by decide +kernel
theorem dX9_out_54 : decode cX9_out 54 = .ok (.iaload, 1) := by decide +kernel
theorem dX9_out_55 : decode cX9_out 55 = .ok (.goto 4, 3) := by decide +kernel
theorem dX9_out_58 : decode cX9_out 58 = .ok (.iconst (-1), 1) := by decide +kernel
theorem dX9_out_59 : decode cX9_out 59 = .ok (.ireturn, 1) := by decide +kernel
theorem dX9_told__0 : decode cX9_told_ 0 = .ok (.aload_n 0, 1) := by decide +kernel
theorem dX9_told__1 : decode cX9_told_ 1 = .ok (.iconst 0, 1) := by decide +kernel
theorem dX9_told__2 : decode cX9_told_ 2 = .ok (.putfield 1, 3) := by decide +kernel
theorem dX9_told__5 : decode cX9_told_ 5 = .ok (.iload_n 1, 1) := by decide +kernel
theorem dX9_told__6 : decode cX9_told_ 6 = .ok (.i2l, 1) := by decide +kernel
theorem dX9_told__7 : decode cX9_told_ 7 = .ok (.lconst 0, 1) := by decide +kernel
theorem dX9_told__8 : decode cX9_told_ 8 = .ok (.lconst 1, 1) := by decide +kernel
theorem dX9_told__9 : decode cX9_told_ 9 = .ok (.invokestatic 93, 3) := by decide +kernel
theorem dX9_told__12 : decode cX9_told_ 12 = .ok (.ifCond .eq 28, 3) := by decide +kernel
theorem dX9_told__15 : decode cX9_told_ 15 = .ok (.iload_n 2, 1) := by decide +kernel
theorem dX9_told__16 : decode cX9_told_ 16 = .ok (.i2l, 1) := by decide +kernel
theorem dX9_told__17 : decode cX9_told_ 17 = .ok (.lconst 0, 1) := by decide +kernel
theorem dX9_told__18 : decode cX9_told_ 18 = .ok (.ldc2_w 231, 3) := by decide +kernel
theorem dX9_told__21 : decode cX9_told_ 21 = .ok (.invokestatic 93, 3) := by decide +kernel
theorem dX9_told__24 : decode cX9_told_ 24 = .ok (.ifCond .eq 16, 3) := by decide +kernel
theorem dX9_told__27 : decode cX9_told_ 27 = .ok (.aload_n 0, 1) := by decide +kernel
theorem dX9_told__28 : decode cX9_told_ 28 = .ok (.getfield 69, 3) := by decide +kernel
theorem dX9_told__31 : decode cX9_told_ 31 = .ok (.iconst 5, 1) := by decide +kernel
theorem dX9_told__32 : decode cX9_told_ 32 = .ok (.iload_n 1, 1) := by decide +kernel
theorem dX9_told__33 : decode cX9_told_ 33 = .ok (.imul, 1) := by decide +kernel
theorem dX9_told__34 : decode cX9_told_ 34 = .ok (.iload_n 2, 1) := by decide +kernel
theorem dX9_told__35 : decode cX9_told_ 35 = .ok (.iadd, 1) := by decide +kernel
theorem dX9_told__36 : decode cX9_told_ 36 = .ok (.iaload, 1) := by decide +kernel
theorem dX9_told__37 : decode cX9_told_ 37 = .ok (.goto 5, 3) := by decide +kernel
theorem dX9_told__40 : decode cX9_told_ 40 = .ok (.bipush (-2), 2) := by decide +kernel
theorem dX9_told__42 : decode cX9_told_ 42 = .ok (.ireturn, 1) := by decide +kernel
