theorem dX9_areJumpsGood_0 : decode cX9_areJumpsGood 0 = .ok (.iconst 0, 1) := by decide +kernel
theorem dX9_areJumpsGood_1 : decode cX9_areJumpsGood 1 = .ok (.istore_n 1, 1) := by decide +kernel
theorem dX9_areJumpsGood_2 : decode cX9_areJumpsGood 2 = .ok (.iload_n 1, 1) := by decide +kernel
theorem dX9_areJumpsGood_3 : decode cX9_areJumpsGood 3 = .ok (.aload_n 0, 1) := by decide +kernel
theorem dX9_areJumpsGood_4 : decode cX9_areJumpsGood 4 = .ok (.getfield 90, 3) := by decide +kernel
theorem dX9_areJumpsGood_7 : decode cX9_areJumpsGood 7 = .ok (.if_icmp .ge 97, 3) := by decide +kernel
theorem dX9_areJumpsGood_10 : decode cX9_areJumpsGood 10 = .ok (.iconst 0, 1) := by decide +kernel
theorem dX9_areJumpsGood_11 : decode cX9_areJumpsGood 11 = .ok (.istore_n 2, 1) := by decide +kernel
theorem dX9_areJumpsGood_12 : decode cX9_areJumpsGood 12 = .ok (.iload_n 2, 1) := by decide +kernel
theorem dX9_areJumpsGood_13 : decode cX9_areJumpsGood 13 = .ok (.aload_n 0, 1) := by decide +kernel
theorem dX9_areJumpsGood_14 : decode cX9_areJumpsGood 14 = .ok (.getfield 23, 3) := by decide +kernel
theorem dX9_areJumpsGood_17 : decode cX9_areJumpsGood 17 = .ok (.iload_n 1, 1) := by decide +kernel
theorem dX9_areJumpsGood_18 : decode cX9_areJumpsGood 18 = .ok (.iaload, 1) := by decide +kernel
theorem dX9_areJumpsGood_19 : decode cX9_areJumpsGood 19 = .ok (.if_icmp .ge 79, 3) := by decide +kernel
theorem dX9_areJumpsGood_22 : decode cX9_areJumpsGood 22 = .ok (.aload_n 0, 1) := by decide +kernel
theorem dX9_areJumpsGood_23 : decode cX9_areJumpsGood 23 = .ok (.getfield 26, 3) := by decide +kernel
theorem dX9_areJumpsGood_26 : decode cX9_areJumpsGood 26 = .ok (.bipush 40, 2) := by decide +kernel
theorem dX9_areJumpsGood_28 : decode cX9_areJumpsGood 28 = .ok (.iload_n 1, 1) := by decide +kernel
theorem dX9_areJumpsGood_29 : decode cX9_areJumpsGood 29 = .ok (.imul, 1) := by decide +kernel
theorem dX9_areJumpsGood_30 : decode cX9_areJumpsGood 30 = .ok (.iload_n 2, 1) := by decide +kernel
theorem dX9_areJumpsGood_31 : decode cX9_areJumpsGood 31 = .ok (.iadd, 1) := by decide +kernel
theorem dX9_areJumpsGood_32 : decode cX9_areJumpsGood 32 = .ok (.iaload, 1) := by decide +kernel
theorem dX9_areJumpsGood_33 : decode cX9_areJumpsGood 33 = .ok (.bipush 6, 2) := by decide +kernel
theorem dX9_areJumpsGood_35 : decode cX9_areJumpsGood 35 = .ok (.if_icmp .eq 19, 3) := by decide +kernel
theorem dX9_areJumpsGood_38 : decode cX9_areJumpsGood 38 = .ok (.aload_n 0, 1) := by decide +kernel
theorem dX9_areJumpsGood_39 : decode cX9_areJumpsGood 39 = .ok (.getfield 26, 3) := by decide +kernel
theorem dX9_areJumpsGood_42 : decode cX9_areJumpsGood 42 = .ok (.bipush 40, 2) := by decide +kernel
theorem dX9_areJumpsGood_44 : decode cX9_areJumpsGood 44 = .ok (.iload_n 1, 1) := by decide +kernel
theorem dX9_areJumpsGood_45 : decode cX9_areJumpsGood 45 = .ok (.imul, 1) := by decide +kernel
theorem dX9_areJumpsGood_46 : decode cX9_areJumpsGood 46 = .ok (.iload_n 2, 1) := by decide +kernel
theorem dX9_areJumpsGood_47 : decode cX9_areJumpsGood 47 = .ok (.iadd, 1) := by decide +kernel
theorem dX9_areJumpsGood_48 : decode cX9_areJumpsGood 48 = .ok (.iaload, 1) := by decide +kernel
theorem dX9_areJumpsGood_49 : decode cX9_areJumpsGood 49 = .ok (.bipush 7, 2) := by decide +kernel
theorem dX9_areJumpsGood_51 : decode cX9_areJumpsGood 51 = .ok (.if_icmp .ne 7, 3) := by decide +kernel
theorem dX9_areJumpsGood_54 : decode cX9_areJumpsGood 54 = .ok (.iconst 1, 1) := by decide +kernel
theorem dX9_areJumpsGood_55 : decode cX9_areJumpsGood 55 = .ok (.goto 4, 3) := by decide +kernel
theorem dX9_areJumpsGood_58 : decode cX9_areJumpsGood 58 = .ok (.iconst 0, 1) := by decide +kernel
theorem dX9_areJumpsGood_59 : decode cX9_areJumpsGood 59 = .ok (.istore_n 3, 1) := by decide +kernel
theorem dX9_areJumpsGood_60 : decode cX9_areJumpsGood 60 = .ok (.iload_n 3, 1) := by decide +kernel
theorem dX9_areJumpsGood_61 : decode cX9_areJumpsGood 61 = .ok (.ifCond .eq 31, 3) := by decide +kernel
theorem dX9_areJumpsGood_64 : decode cX9_areJumpsGood 64 = .ok (.aload_n 0, 1) := by decide +kernel
theorem dX9_areJumpsGood_65 : decode cX9_areJumpsGood 65 = .ok (.getfield 29, 3) := by decide +kernel
theorem dX9_areJumpsGood_68 : decode cX9_areJumpsGood 68 = .ok (.bipush 40, 2) := by decide +kernel
theorem dX9_areJumpsGood_70 : decode cX9_areJumpsGood 70 = .ok (.iload_n 1, 1) := by decide +kernel
theorem dX9_areJumpsGood_71 : decode cX9_areJumpsGood 71 = .ok (.imul, 1) := by decide +kernel
theorem dX9_areJumpsGood_72 : decode cX9_areJumpsGood 72 = .ok (.iload_n 2, 1) := by decide +kernel
theorem dX9_areJumpsGood_73 : decode cX9_areJumpsGood 73 = .ok (.iadd, 1) := by decide +kernel
theorem dX9_areJumpsGood_74 : decode cX9_areJumpsGood 74 = .ok (.iaload, 1) := by decide +kernel
theorem dX9_areJumpsGood_75 : decode cX9_areJumpsGood 75 = .ok (.aload_n 0, 1) := by decide +kernel
theorem dX9_areJumpsGood_76 : decode cX9_areJumpsGood 76 = .ok (.getfield 23, 3) := by decide +kernel
theorem dX9_areJumpsGood_79 : decode cX9_areJumpsGood 79 = .ok (.iload_n 1, 1) := by decide +kernel
theorem dX9_areJumpsGood_80 : decode cX9_areJumpsGood 80 = .ok (.iaload, 1) := by decide +kernel
theorem dX9_areJumpsGood_81 : decode cX9_areJumpsGood 81 = .ok (.if_icmp .le 11, 3) := by decide +kernel
theorem dX9_areJumpsGood_84 : decode cX9_areJumpsGood 84 = .ok (.aload_n 0, 1) := by decide +kernel
theorem dX9_areJumpsGood_85 : decode cX9_areJumpsGood 85 = .ok (.iconst 1, 1) := by decide +kernel
theorem dX9_areJumpsGood_86 : decode cX9_areJumpsGood 86 = .ok (.iload_n 1, 1) := by decide +kernel
theorem dX9_areJumpsGood_87 : decode cX9_areJumpsGood 87 = .ok (.iload_n 2, 1) := by decide +kernel
theorem dX9_areJumpsGood_88 : decode cX9_areJumpsGood 88 = .ok (.invokevirtual 147, 3) := by decide +kernel
theorem dX9_areJumpsGood_91 : decode cX9_areJumpsGood 91 = .ok (.ireturn, 1) := by decide +kernel
theorem dX9_areJumpsGood_92 : decode cX9_areJumpsGood 92 = .ok (.iinc 2 1, 3) := by decide +kernel
theorem dX9_areJumpsGood_95 : decode cX9_areJumpsGood 95 = .ok (.goto (-83), 3) := by decide +kernel
theorem dX9_areJumpsGood_98 : decode cX9_areJumpsGood 98 = .ok (.iinc 1 1, 3) := by decide +kernel
theorem dX9_areJumpsGood_101 : decode cX9_areJumpsGood 101 = .ok (.goto (-99), 3) := by decide +kernel
theorem dX9_areJumpsGood_104 : decode cX9_areJumpsGood 104 = .ok (.iconst 0, 1) := by decide +kernel
theorem dX9_areJumpsGood_105 : decode cX9_areJumpsGood 105 = .ok (.istore_n 1, 1) := by decide +kernel
theorem dX9_areJumpsGood_106 : decode cX9_areJumpsGood 106 = .ok (.iload_n 1, 1) := by decide +kernel
theorem dX9_areJumpsGood_107 : decode cX9_areJumpsGood 107 = .ok (.aload_n 0, 1) := by decide +kernel
theorem dX9_areJumpsGood_108 : decode cX9_areJumpsGood 108 = .ok (.getfield 90, 3) := by decide +kernel
theorem dX9_areJumpsGood_111 : decode cX9_areJumpsGood 111 = .ok (.if_icmp .ge 31, 3) := by decide +kernel
theorem dX9_areJumpsGood_114 : decode cX9_areJumpsGood 114 = .ok (.aload_n 0, 1) := by decide +kernel
theorem dX9_areJumpsGood_115 : decode cX9_areJumpsGood 115 = .ok (.iload_n 1, 1) := by decide +kernel
theorem dX9_areJumpsGood_116 : decode cX9_areJumpsGood 116 = .ok (.invokevirtual 137, 3) := by decide +kernel
theorem dX9_areJumpsGood_119 : decode cX9_areJumpsGood 119 = .ok (.aload_n 0, 1) := by decide +kernel
theorem dX9_areJumpsGood_120 : decode cX9_areJumpsGood 120 = .ok (.getfield 65, 3) := by decide +kernel
theorem dX9_areJumpsGood_123 : decode cX9_areJumpsGood 123 = .ok (.iload_n 1, 1) := by decide +kernel
theorem dX9_areJumpsGood_124 : decode cX9_areJumpsGood 124 = .ok (.baload, 1) := by decide +kernel
theorem dX9_areJumpsGood_125 : decode cX9_areJumpsGood 125 = .ok (.ifCond .eq 11, 3) := by decide +kernel
theorem dX9_areJumpsGood_128 : decode cX9_areJumpsGood 128 = .ok (.aload_n 0, 1) := by decide +kernel
theorem dX9_areJumpsGood_129 : decode cX9_areJumpsGood 129 = .ok (.iconst 2, 1) := by decide +kernel
theorem dX9_areJumpsGood_130 : decode cX9_areJumpsGood 130 = .ok (.iload_n 1, 1) := by decide +kernel
theorem dX9_areJumpsGood_131 : decode cX9_areJumpsGood 131 = .ok (.iconst (-1), 1) := by decide +kernel
theorem dX9_areJumpsGood_132 : decode cX9_areJumpsGood 132 = .ok (.invokevirtual 147, 3) := by decide +kernel
theorem dX9_areJumpsGood_135 : decode cX9_areJumpsGood 135 = .ok (.ireturn, 1) := by decide +kernel
theorem dX9_areJumpsGood_136 : decode cX9_areJumpsGood 136 = .ok (.iinc 1 1, 3) := by decide +kernel
theorem dX9_areJumpsGood_139 : decode cX9_areJumpsGood 139 = .ok (.goto (-33), 3) := by decide +kernel
theorem dX9_areJumpsGood_142 : decode cX9_areJumpsGood 142 = .ok (.iconst 1, 1) := by decide +kernel
theorem dX9_areJumpsGood_143 : decode cX9_areJumpsGood 143 = .ok (.ireturn, 1) := by decide +kernel
theorem dX9_areBanksGood_0 : decode cX9_areBanksGood 0 = .ok (.iconst 0, 1) := by decide +kernel
theorem dX9_areBanksGood_1 : decode cX9_areBanksGood 1 = .ok (.istore_n 1, 1) := by decide +kernel
theorem dX9_areBanksGood_2 : decode cX9_areBanksGood 2 = .ok (.iload_n 1, 1) := by decide +kernel
theorem dX9_areBanksGood_3 : decode cX9_areBanksGood 3 = .ok (.aload_n 0, 1) := by decide +kernel
theorem dX9_areBanksGood_4 : decode cX9_areBanksGood 4 = .ok (.getfield 97, 3) := by decide +kernel
theorem dX9_areBanksGood_7 : decode cX9_areBanksGood 7 = .ok (.if_icmp .ge 41, 3) := by decide +kernel
theorem dX9_areBanksGood_10 : decode cX9_areBanksGood 10 = .ok (.aload_n 0, 1) := by decide +kernel
theorem dX9_areBanksGood_11 : decode cX9_areBanksGood 11 = .ok (.getfield 13, 3) := by decide +kernel
theorem dX9_areBanksGood_14 : decode cX9_areBanksGood 14 = .ok (.iload_n 1, 1) := by decide +kernel
theorem dX9_areBanksGood_15 : decode cX9_areBanksGood 15 = .ok (.iaload, 1) := by decide +kernel
theorem dX9_areBanksGood_16 : decode cX9_areBanksGood 16 = .ok (.iconst 1, 1) := by decide +kernel
theorem dX9_areBanksGood_17 : decode cX9_areBanksGood 17 = .ok (.if_icmp .ne 25, 3) := by decide +kernel
theorem dX9_areBanksGood_20 : decode cX9_areBanksGood 20 = .ok (.aload_n 0, 1) := by decide +kernel
theorem dX9_areBanksGood_21 : decode cX9_areBanksGood 21 = .ok (.iload_n 1, 1) := by decide +kernel
theorem dX9_areBanksGood_22 : decode cX9_areBanksGood 22 = .ok (.invokevirtual 150, 3) := by decide +kernel
theorem dX9_areBanksGood_25 : decode cX9_areBanksGood 25 = .ok (.aload_n 0, 1) := by decide +kernel
theorem dX9_areBanksGood_26 : decode cX9_areBanksGood 26 = .ok (.getfield 32, 3) := by decide +kernel
theorem dX9_areBanksGood_29 : decode cX9_areBanksGood 29 = .ok (.iconst 1, 1) := by decide +kernel
theorem dX9_areBanksGood_30 : decode cX9_areBanksGood 30 = .ok (.iaload, 1) := by decide +kernel
theorem dX9_areBanksGood_31 : decode cX9_areBanksGood 31 = .ok (.if_icmp .le 11, 3) := by decide +kernel
theorem dX9_areBanksGood_34 : decode cX9_areBanksGood 34 = .ok (.aload_n 0, 1) := by decide +kernel
theorem dX9_areBanksGood_35 : decode cX9_areBanksGood 35 = .ok (.iconst 3, 1) := by decide +kernel
theorem dX9_areBanksGood_36 : decode cX9_areBanksGood 36 = .ok (.iload_n 1, 1) := by decide +kernel
theorem dX9_areBanksGood_37 : decode cX9_areBanksGood 37 = .ok (.iconst (-1), 1) := by decide +kernel
theorem dX9_areBanksGood_38 : decode cX9_areBanksGood 38 = .ok (.invokevirtual 147, 3) := by decide +kernel
theorem dX9_areBanksGood_41 : decode cX9_areBanksGood 41 = .ok (.ireturn, 1) := by decide +kernel
theorem dX9_areBanksGood_42 : decode cX9_areBanksGood 42 = .ok (.iinc 1 1, 3) := by decide +kernel
theorem dX9_areBanksGood_45 : decode cX9_areBanksGood 45 = .ok (.goto (-43), 3) := by decide +kernel
theorem dX9_areBanksGood_48 : decode cX9_areBanksGood 48 = .ok (.iconst 0, 1) := by decide +kernel
theorem dX9_areBanksGood_49 : decode cX9_areBanksGood 49 = .ok (.istore_n 1, 1) := by decide +kernel
theorem dX9_areBanksGood_50 : decode cX9_areBanksGood 50 = .ok (.iload_n 1, 1) := by decide +kernel
theorem dX9_areBanksGood_51 : decode cX9_areBanksGood 51 = .ok (.bipush 8, 2) := by decide +kernel
theorem dX9_areBanksGood_53 : decode cX9_areBanksGood 53 = .ok (.if_icmp .ge 16, 3) := by decide +kernel
theorem dX9_areBanksGood_56 : decode cX9_areBanksGood 56 = .ok (.aload_n 0, 1) := by decide +kernel
theorem dX9_areBanksGood_57 : decode cX9_areBanksGood 57 = .ok (.getfield 38, 3) := by decide +kernel
theorem dX9_areBanksGood_60 : decode cX9_areBanksGood 60 = .ok (.iload_n 1, 1) := by decide +kernel
theorem dX9_areBanksGood_61 : decode cX9_areBanksGood 61 = .ok (.iconst 0, 1) := by decide +kernel
theorem dX9_areBanksGood_62 : decode cX9_areBanksGood 62 = .ok (.iastore, 1) := by decide +kernel
theorem dX9_areBanksGood_63 : decode cX9_areBanksGood 63 = .ok (.iinc 1 1, 3) := by decide +kernel
theorem dX9_areBanksGood_66 : decode cX9_areBanksGood 66 = .ok (.goto (-16), 3) := by decide +kernel
theorem dX9_areBanksGood_69 : decode cX9_areBanksGood 69 = .ok (.iconst 0, 1) := by decide +kernel
theorem dX9_areBanksGood_70 : decode cX9_areBanksGood 70 = .ok (.istore_n 1, 1) := by decide +kernel
theorem dX9_areBanksGood_71 : decode cX9_areBanksGood 71 = .ok (.iload_n 1, 1) := by decide +kernel
theorem dX9_areBanksGood_72 : decode cX9_areBanksGood 72 = .ok (.aload_n 0, 1) := by decide +kernel
theorem dX9_areBanksGood_73 : decode cX9_areBanksGood 73 = .ok (.getfield 97, 3) := by decide +kernel
theorem dX9_areBanksGood_76 : decode cX9_areBanksGood 76 = .ok (.if_icmp .ge 97, 3) := by decide +kernel
theorem dX9_areBanksGood_79 : decode cX9_areBanksGood 79 = .ok (.aload_n 0, 1) := by decide +kernel
theorem dX9_areBanksGood_80 : decode cX9_areBanksGood 80 = .ok (.getfield 13, 3) := by decide +kernel
theorem dX9_areBanksGood_83 : decode cX9_areBanksGood 83 = .ok (.iload_n 1, 1) := by decide +kernel
theorem dX9_areBanksGood_84 : decode cX9_areBanksGood 84 = .ok (.iaload, 1) := by decide +kernel
theorem dX9_areBanksGood_85 : decode cX9_areBanksGood 85 = .ok (.iconst 1, 1) := by decide +kernel
theorem dX9_areBanksGood_86 : decode cX9_areBanksGood 86 = .ok (.if_icmp .ne 81, 3) := by decide +kernel
theorem dX9_areBanksGood_89 : decode cX9_areBanksGood 89 = .ok (.iconst 0, 1) := by decide +kernel
theorem dX9_areBanksGood_90 : decode cX9_areBanksGood 90 = .ok (.istore_n 2, 1) := by decide +kernel
theorem dX9_areBanksGood_91 : decode cX9_areBanksGood 91 = .ok (.iload_n 2, 1) := by decide +kernel
theorem dX9_areBanksGood_92 : decode cX9_areBanksGood 92 = .ok (.aload_n 0, 1) := by decide +kernel
theorem dX9_areBanksGood_93 : decode cX9_areBanksGood 93 = .ok (.getfield 32, 3) := by decide +kernel
theorem dX9_areBanksGood_96 : decode cX9_areBanksGood 96 = .ok (.iconst 0, 1) := by decide +kernel
theorem dX9_areBanksGood_97 : decode cX9_areBanksGood 97 = .ok (.iaload, 1) := by decide +kernel
theorem dX9_areBanksGood_98 : decode cX9_areBanksGood 98 = .ok (.if_icmp .ge 30, 3) := by decide +kernel
theorem dX9_areBanksGood_101 : decode cX9_areBanksGood 101 = .ok (.aload_n 0, 1) := by decide +kernel
theorem dX9_areBanksGood_102 : decode cX9_areBanksGood 102 = .ok (.getfield 38, 3) := by decide +kernel
theorem dX9_areBanksGood_105 : decode cX9_areBanksGood 105 = .ok (.iload_n 2, 1) := by decide +kernel
theorem dX9_areBanksGood_106 : decode cX9_areBanksGood 106 = .ok (.iaload, 1) := by decide +kernel
theorem dX9_areBanksGood_107 : decode cX9_areBanksGood 107 = .ok (.aload_n 0, 1) := by decide +kernel
theorem dX9_areBanksGood_108 : decode cX9_areBanksGood 108 = .ok (.iload_n 1, 1) := by decide +kernel
theorem dX9_areBanksGood_109 : decode cX9_areBanksGood 109 = .ok (.invokevirtual 150, 3) := by decide +kernel
theorem dX9_areBanksGood_112 : decode cX9_areBanksGood 112 = .ok (.iadd, 1) := by decide +kernel
theorem dX9_areBanksGood_113 : decode cX9_areBanksGood 113 = .ok (.aload_n 0, 1) := by decide +kernel
theorem dX9_areBanksGood_114 : decode cX9_areBanksGood 114 = .ok (.getfield 32, 3) := by decide +kernel
theorem dX9_areBanksGood_117 : decode cX9_areBanksGood 117 = .ok (.iconst 1, 1) := by decide +kernel
theorem dX9_areBanksGood_118 : decode cX9_areBanksGood 118 = .ok (.iaload, 1) := by decide +kernel
theorem dX9_areBanksGood_119 : decode cX9_areBanksGood 119 = .ok (.if_icmp .le 9, 3) := by decide +kernel
theorem dX9_areBanksGood_122 : decode cX9_areBanksGood 122 = .ok (.iinc 2 1, 3) := by decide +kernel
theorem dX9_areBanksGood_125 : decode cX9_areBanksGood 125 = .ok (.goto (-34), 3) := by decide +kernel
theorem dX9_areBanksGood_128 : decode cX9_areBanksGood 128 = .ok (.iload_n 2, 1) := by decide +kernel
theorem dX9_areBanksGood_129 : decode cX9_areBanksGood 129 = .ok (.aload_n 0, 1) := by decide +kernel
theorem dX9_areBanksGood_130 : decode cX9_areBanksGood 130 = .ok (.getfield 32, 3) := by decide +kernel
theorem dX9_areBanksGood_133 : decode cX9_areBanksGood 133 = .ok (.iconst 0, 1) := by decide +kernel
theorem dX9_areBanksGood_134 : decode cX9_areBanksGood 134 = .ok (.iaload, 1) := by decide +kernel
theorem dX9_areBanksGood_135 : decode cX9_areBanksGood 135 = .ok (.if_icmp .ne 11, 3) := by decide +kernel
theorem dX9_areBanksGood_138 : decode cX9_areBanksGood 138 = .ok (.aload_n 0, 1) := by decide +kernel
theorem dX9_areBanksGood_139 : decode cX9_areBanksGood 139 = .ok (.iconst 4, 1) := by decide +kernel
theorem dX9_areBanksGood_140 : decode cX9_areBanksGood 140 = .ok (.iload_n 1, 1) := by decide +kernel
theorem dX9_areBanksGood_141 : decode cX9_areBanksGood 141 = .ok (.iconst (-1), 1) := by decide +kernel
theorem dX9_areBanksGood_142 : decode cX9_areBanksGood 142 = .ok (.invokevirtual 147, 3) := by decide +kernel
theorem dX9_areBanksGood_145 : decode cX9_areBanksGood 145 = .ok (.ireturn, 1) := by decide +kernel
theorem dX9_areBanksGood_146 : decode cX9_areBanksGood 146 = .ok (.aload_n 0, 1) := by decide +kernel
theorem dX9_areBanksGood_147 : decode cX9_areBanksGood 147 = .ok (.getfield 35, 3) := by decide +kernel
theorem dX9_areBanksGood_150 : decode cX9_areBanksGood 150 = .ok (.iload_n 1, 1) := by decide +kernel
theorem dX9_areBanksGood_151 : decode cX9_areBanksGood 151 = .ok (.iload_n 2, 1) := by decide +kernel
theorem dX9_areBanksGood_152 : decode cX9_areBanksGood 152 = .ok (.iastore, 1) := by decide +kernel
theorem dX9_areBanksGood_153 : decode cX9_areBanksGood 153 = .ok (.aload_n 0, 1) := by decide +kernel
theorem dX9_areBanksGood_154 : decode cX9_areBanksGood 154 = .ok (.getfield 38, 3) := by decide +kernel
theorem dX9_areBanksGood_157 : decode cX9_areBanksGood 157 = .ok (.iload_n 2, 1) := by decide +kernel
theorem dX9_areBanksGood_158 : decode cX9_areBanksGood 158 = .ok (.dup2, 1) := by decide +kernel
theorem dX9_areBanksGood_159 : decode cX9_areBanksGood 159 = .ok (.iaload, 1) := by decide +kernel
theorem dX9_areBanksGood_160 : decode cX9_areBanksGood 160 = .ok (.aload_n 0, 1) := by decide +kernel
theorem dX9_areBanksGood_161 : decode cX9_areBanksGood 161 = .ok (.iload_n 1, 1) := by decide +kernel
theorem dX9_areBanksGood_162 : decode cX9_areBanksGood 162 = .ok (.invokevirtual 150, 3) := by decide +kernel
theorem dX9_areBanksGood_165 : decode cX9_areBanksGood 165 = .ok (.iadd, 1) := by decide +kernel
theorem dX9_areBanksGood_166 : decode cX9_areBanksGood 166 = .ok (.iastore, 1) := by decide +kernel
theorem dX9_areBanksGood_167 : decode cX9_areBanksGood 167 = .ok (.iinc 1 1, 3) := by decide +kernel
theorem dX9_areBanksGood_170 : decode cX9_areBanksGood 170 = .ok (.goto (-99), 3) := by decide +kernel
theorem dX9_areBanksGood_173 : decode cX9_areBanksGood 173 = .ok (.iconst 1, 1) := by decide +kernel
theorem dX9_areBanksGood_174 : decode cX9_areBanksGood 174 = .ok (.ireturn, 1) := by decide +kernel
theorem dX9_isCommonGood_0 : decode cX9_isCommonGood 0 = .ok (.aload_n 0, 1) := by decide +kernel
theorem dX9_isCommonGood_1 : decode cX9_isCommonGood 1 = .ok (.iconst 0, 1) := by decide +kernel
theorem dX9_isCommonGood_2 : decode cX9_isCommonGood 2 = .ok (.putfield 153, 3) := by decide +kernel
theorem dX9_isCommonGood_5 : decode cX9_isCommonGood 5 = .ok (.iconst 0, 1) := by decide +kernel
theorem dX9_isCommonGood_6 : decode cX9_isCommonGood 6 = .ok (.istore_n 1, 1) := by decide +kernel
theorem dX9_isCommonGood_7 : decode cX9_isCommonGood 7 = .ok (.iload_n 1, 1) := by decide +kernel
theorem dX9_isCommonGood_8 : decode cX9_isCommonGood 8 = .ok (.bipush 8, 2) := by decide +kernel
theorem dX9_isCommonGood_10 : decode cX9_isCommonGood 10 = .ok (.if_icmp .ge 16, 3) := by decide +kernel
theorem dX9_isCommonGood_13 : decode cX9_isCommonGood 13 = .ok (.aload_n 0, 1) := by decide +kernel
theorem dX9_isCommonGood_14 : decode cX9_isCommonGood 14 = .ok (.getfield 38, 3) := by decide +kernel
theorem dX9_isCommonGood_17 : decode cX9_isCommonGood 17 = .ok (.iload_n 1, 1) := by decide +kernel
theorem dX9_isCommonGood_18 : decode cX9_isCommonGood 18 = .ok (.iconst 0, 1) := by decide +kernel
theorem dX9_isCommonGood_19 : decode cX9_isCommonGood 19 = .ok (.iastore, 1) := by decide +kernel
theorem dX9_isCommonGood_20 : decode cX9_isCommonGood 20 = .ok (.iinc 1 1, 3) := by decide +kernel
theorem dX9_isCommonGood_23 : decode cX9_isCommonGood 23 = .ok (.goto (-16), 3) := by decide +kernel
theorem dX9_isCommonGood_26 : decode cX9_isCommonGood 26 = .ok (.iconst 0, 1) := by decide +kernel
theorem dX9_isCommonGood_27 : decode cX9_isCommonGood 27 = .ok (.istore_n 1, 1) := by decide +kernel
theorem dX9_isCommonGood_28 : decode cX9_isCommonGood 28 = .ok (.iload_n 1, 1) := by decide +kernel
theorem dX9_isCommonGood_29 : decode cX9_isCommonGood 29 = .ok (.aload_n 0, 1) := by decide +kernel
theorem dX9_isCommonGood_30 : decode cX9_isCommonGood 30 = .ok (.getfield 97, 3) := by decide +kernel
theorem dX9_isCommonGood_33 : decode cX9_isCommonGood 33 = .ok (.if_icmp .ge 131, 3) := by decide +kernel
theorem dX9_isCommonGood_36 : decode cX9_isCommonGood 36 = .ok (.iconst 0, 1) := by decide +kernel
theorem dX9_isCommonGood_37 : decode cX9_isCommonGood 37 = .ok (.istore_n 2, 1) := by decide +kernel
theorem dX9_isCommonGood_38 : decode cX9_isCommonGood 38 = .ok (.iload_n 2, 1) := by decide +kernel
theorem dX9_isCommonGood_39 : decode cX9_isCommonGood 39 = .ok (.aload_n 0, 1) := by decide +kernel
theorem dX9_isCommonGood_40 : decode cX9_isCommonGood 40 = .ok (.getfield 90, 3) := by decide +kernel
theorem dX9_isCommonGood_43 : decode cX9_isCommonGood 43 = .ok (.if_icmp .ge 115, 3) := by decide +kernel
theorem dX9_isCommonGood_46 : decode cX9_isCommonGood 46 = .ok (.aload_n 0, 1) := by decide +kernel
theorem dX9_isCommonGood_47 : decode cX9_isCommonGood 47 = .ok (.getfield 17, 3) := by decide +kernel
theorem dX9_isCommonGood_50 : decode cX9_isCommonGood 50 = .ok (.iload_n 2, 1) := by decide +kernel
theorem dX9_isCommonGood_51 : decode cX9_isCommonGood 51 = .ok (.iaload, 1) := by decide +kernel
theorem dX9_isCommonGood_52 : decode cX9_isCommonGood 52 = .ok (.iload_n 1, 1) := by decide +kernel
theorem dX9_isCommonGood_53 : decode cX9_isCommonGood 53 = .ok (.if_icmp .ne 99, 3) := by decide +kernel
theorem dX9_isCommonGood_56 : decode cX9_isCommonGood 56 = .ok (.aload_n 0, 1) := by decide +kernel
theorem dX9_isCommonGood_57 : decode cX9_isCommonGood 57 = .ok (.getfield 41, 3) := by decide +kernel
theorem dX9_isCommonGood_60 : decode cX9_isCommonGood 60 = .ok (.iload_n 2, 1) := by decide +kernel
theorem dX9_isCommonGood_61 : decode cX9_isCommonGood 61 = .ok (.aload_n 0, 1) := by decide +kernel
theorem dX9_isCommonGood_62 : decode cX9_isCommonGood 62 = .ok (.getfield 13, 3) := by decide +kernel
theorem dX9_isCommonGood_65 : decode cX9_isCommonGood 65 = .ok (.iload_n 1, 1) := by decide +kernel
theorem dX9_isCommonGood_66 : decode cX9_isCommonGood 66 = .ok (.iaload, 1) := by decide +kernel
theorem dX9_isCommonGood_67 : decode cX9_isCommonGood 67 = .ok (.ifCond .ne 10, 3) := by decide +kernel
theorem dX9_isCommonGood_70 : decode cX9_isCommonGood 70 = .ok (.aload_n 0, 1) := by decide +kernel
theorem dX9_isCommonGood_71 : decode cX9_isCommonGood 71 = .ok (.getfield 153, 3) := by decide +kernel
theorem dX9_isCommonGood_74 : decode cX9_isCommonGood 74 = .ok (.goto 18, 3) := by decide +kernel
theorem dX9_isCommonGood_77 : decode cX9_isCommonGood 77 = .ok (.sipush 256, 3) := by decide +kernel
theorem dX9_isCommonGood_80 : decode cX9_isCommonGood 80 = .ok (.aload_n 0, 1) := by decide +kernel
theorem dX9_isCommonGood_81 : decode cX9_isCommonGood 81 = .ok (.getfield 38, 3) := by decide +kernel
theorem dX9_isCommonGood_84 : decode cX9_isCommonGood 84 = .ok (.aload_n 0, 1) := by decide +kernel
theorem dX9_isCommonGood_85 : decode cX9_isCommonGood 85 = .ok (.getfield 35, 3) := by decide +kernel
theorem dX9_isCommonGood_88 : decode cX9_isCommonGood 88 = .ok (.iload_n 1, 1) := by decide +kernel
theorem dX9_isCommonGood_89 : decode cX9_isCommonGood 89 = .ok (.iaload, 1) := by decide +kernel
theorem dX9_isCommonGood_90 : decode cX9_isCommonGood 90 = .ok (.iaload, 1) := by decide +kernel
theorem dX9_isCommonGood_91 : decode cX9_isCommonGood 91 = .ok (.iadd, 1) := by decide +kernel
theorem dX9_isCommonGood_92 : decode cX9_isCommonGood 92 = .ok (.iastore, 1) := by decide +kernel
theorem dX9_isCommonGood_93 : decode cX9_isCommonGood 93 = .ok (.aload_n 0, 1) := by decide +kernel
theorem dX9_isCommonGood_94 : decode cX9_isCommonGood 94 = .ok (.dup, 1) := by decide +kernel
theorem dX9_isCommonGood_95 : decode cX9_isCommonGood 95 = .ok (.getfield 153, 3) := by decide +kernel
theorem dX9_isCommonGood_98 : decode cX9_isCommonGood 98 = .ok (.aload_n 0, 1) := by decide +kernel
theorem dX9_isCommonGood_99 : decode cX9_isCommonGood 99 = .ok (.getfield 13, 3) := by decide +kernel
theorem dX9_isCommonGood_102 : decode cX9_isCommonGood 102 = .ok (.iload_n 1, 1) := by decide +kernel
theorem dX9_isCommonGood_103 : decode cX9_isCommonGood 103 = .ok (.iaload, 1) := by decide +kernel
theorem dX9_isCommonGood_104 : decode cX9_isCommonGood 104 = .ok (.ifCond .ne 11, 3) := by decide +kernel
theorem dX9_isCommonGood_107 : decode cX9_isCommonGood 107 = .ok (.aload_n 0, 1) := by decide +kernel
theorem dX9_isCommonGood_108 : decode cX9_isCommonGood 108 = .ok (.iload_n 2, 1) := by decide +kernel
theorem dX9_isCommonGood_109 : decode cX9_isCommonGood 109 = .ok (.invokevirtual 134, 3) := by decide +kernel
theorem dX9_isCommonGood_112 : decode cX9_isCommonGood 112 = .ok (.goto 4, 3) := by decide +kernel
theorem dX9_isCommonGood_115 : decode cX9_isCommonGood 115 = .ok (.iconst 0, 1) := by decide +kernel
theorem dX9_isCommonGood_116 : decode cX9_isCommonGood 116 = .ok (.iadd, 1) := by decide +kernel
theorem dX9_isCommonGood_117 : decode cX9_isCommonGood 117 = .ok (.putfield 153, 3) := by decide +kernel
theorem dX9_isCommonGood_120 : decode cX9_isCommonGood 120 = .ok (.aload_n 0, 1) := by decide +kernel
theorem dX9_isCommonGood_121 : decode cX9_isCommonGood 121 = .ok (.getfield 38, 3) := by decide +kernel
theorem dX9_isCommonGood_124 : decode cX9_isCommonGood 124 = .ok (.aload_n 0, 1) := by decide +kernel
theorem dX9_isCommonGood_125 : decode cX9_isCommonGood 125 = .ok (.getfield 35, 3) := by decide +kernel
theorem dX9_isCommonGood_128 : decode cX9_isCommonGood 128 = .ok (.iload_n 1, 1) := by decide +kernel
theorem dX9_isCommonGood_129 : decode cX9_isCommonGood 129 = .ok (.iaload, 1) := by decide +kernel
theorem dX9_isCommonGood_130 : decode cX9_isCommonGood 130 = .ok (.dup2, 1) := by decide +kernel
theorem dX9_isCommonGood_131 : decode cX9_isCommonGood 131 = .ok (.iaload, 1) := by decide +kernel
theorem dX9_isCommonGood_132 : decode cX9_isCommonGood 132 = .ok (.aload_n 0, 1) := by decide +kernel
theorem dX9_isCommonGood_133 : decode cX9_isCommonGood 133 = .ok (.getfield 13, 3) := by decide +kernel
theorem dX9_isCommonGood_136 : decode cX9_isCommonGood 136 = .ok (.iload_n 1, 1) := by decide +kernel
theorem dX9_isCommonGood_137 : decode cX9_isCommonGood 137 = .ok (.iaload, 1) := by decide +kernel
theorem dX9_isCommonGood_138 : decode cX9_isCommonGood 138 = .ok (.ifCond .ne 7, 3) := by decide +kernel
theorem dX9_isCommonGood_141 : decode cX9_isCommonGood 141 = .ok (.iconst 0, 1) := by decide +kernel
theorem dX9_isCommonGood_142 : decode cX9_isCommonGood 142 = .ok (.goto 8, 3) := by decide +kernel
theorem dX9_isCommonGood_145 : decode cX9_isCommonGood 145 = .ok (.aload_n 0, 1) := by decide +kernel
theorem dX9_isCommonGood_146 : decode cX9_isCommonGood 146 = .ok (.iload_n 2, 1) := by decide +kernel
theorem dX9_isCommonGood_147 : decode cX9_isCommonGood 147 = .ok (.invokevirtual 134, 3) := by decide +kernel
theorem dX9_isCommonGood_150 : decode cX9_isCommonGood 150 = .ok (.iadd, 1) := by decide +kernel
theorem dX9_isCommonGood_151 : decode cX9_isCommonGood 151 = .ok (.iastore, 1) := by decide +kernel
theorem dX9_isCommonGood_152 : decode cX9_isCommonGood 152 = .ok (.iinc 2 1, 3) := by decide +kernel
theorem dX9_isCommonGood_155 : decode cX9_isCommonGood 155 = .ok (.goto (-117), 3) := by decide +kernel
theorem dX9_isCommonGood_158 : decode cX9_isCommonGood 158 = .ok (.iinc 1 1, 3) := by decide +kernel
theorem dX9_isCommonGood_161 : decode cX9_isCommonGood 161 = .ok (.goto (-133), 3) := by decide +kernel
theorem dX9_isCommonGood_164 : decode cX9_isCommonGood 164 = .ok (.aload_n 0, 1) := by decide +kernel
theorem dX9_isCommonGood_165 : decode cX9_isCommonGood 165 = .ok (.iconst 0, 1) := by decide +kernel
theorem dX9_isCommonGood_166 : decode cX9_isCommonGood 166 = .ok (.putfield 156, 3) := by decide +kernel
theorem dX9_isCommonGood_169 : decode cX9_isCommonGood 169 = .ok (.aload_n 0, 1) := by decide +kernel
theorem dX9_isCommonGood_170 : decode cX9_isCommonGood 170 = .ok (.iconst 0, 1) := by decide +kernel
theorem dX9_isCommonGood_171 : decode cX9_isCommonGood 171 = .ok (.putfield 159, 3) := by decide +kernel
theorem dX9_isCommonGood_174 : decode cX9_isCommonGood 174 = .ok (.iconst 0, 1) := by decide +kernel
theorem dX9_isCommonGood_175 : decode cX9_isCommonGood 175 = .ok (.istore_n 1, 1) := by decide +kernel
theorem dX9_isCommonGood_176 : decode cX9_isCommonGood 176 = .ok (.iload_n 1, 1) := by decide +kernel
theorem dX9_isCommonGood_177 : decode cX9_isCommonGood 177 = .ok (.aload_n 0, 1) := by decide +kernel
theorem dX9_isCommonGood_178 : decode cX9_isCommonGood 178 = .ok (.getfield 90, 3) := by decide +kernel
theorem dX9_isCommonGood_181 : decode cX9_isCommonGood 181 = .ok (.if_icmp .ge 161, 3) := by decide +kernel
theorem dX9_isCommonGood_184 : decode cX9_isCommonGood 184 = .ok (.iconst 0, 1) := by decide +kernel
theorem dX9_isCommonGood_185 : decode cX9_isCommonGood 185 = .ok (.istore_n 2, 1) := by decide +kernel
theorem dX9_isCommonGood_186 : decode cX9_isCommonGood 186 = .ok (.iconst 0, 1) := by decide +kernel
theorem dX9_isCommonGood_187 : decode cX9_isCommonGood 187 = .ok (.istore_n 3, 1) := by decide +kernel
theorem dX9_isCommonGood_188 : decode cX9_isCommonGood 188 = .ok (.iload_n 3, 1) := by decide +kernel
theorem dX9_isCommonGood_189 : decode cX9_isCommonGood 189 = .ok (.aload_n 0, 1) := by decide +kernel
theorem dX9_isCommonGood_190 : decode cX9_isCommonGood 190 = .ok (.getfield 90, 3) := by decide +kernel
theorem dX9_isCommonGood_193 : decode cX9_isCommonGood 193 = .ok (.if_icmp .ge 78, 3) := by decide +kernel
theorem dX9_isCommonGood_196 : decode cX9_isCommonGood 196 = .ok (.iconst 0, 1) := by decide +kernel
theorem dX9_isCommonGood_197 : decode cX9_isCommonGood 197 = .ok (.istore 4, 2) := by decide +kernel
theorem dX9_isCommonGood_199 : decode cX9_isCommonGood 199 = .ok (.iload 4, 2) := by decide +kernel
theorem dX9_isCommonGood_201 : decode cX9_isCommonGood 201 = .ok (.aload_n 0, 1) := by decide +kernel
theorem dX9_isCommonGood_202 : decode cX9_isCommonGood 202 = .ok (.getfield 23, 3) := by decide +kernel
theorem dX9_isCommonGood_205 : decode cX9_isCommonGood 205 = .ok (.iload_n 3, 1) := by decide +kernel
theorem dX9_isCommonGood_206 : decode cX9_isCommonGood 206 = .ok (.iaload, 1) := by decide +kernel
theorem dX9_isCommonGood_207 : decode cX9_isCommonGood 207 = .ok (.if_icmp .ge 58, 3) := by decide +kernel
theorem dX9_isCommonGood_210 : decode cX9_isCommonGood 210 = .ok (.iload_n 2, 1) := by decide +kernel
theorem dX9_isCommonGood_211 : decode cX9_isCommonGood 211 = .ok (.aload_n 0, 1) := by decide +kernel
theorem dX9_isCommonGood_212 : decode cX9_isCommonGood 212 = .ok (.getfield 26, 3) := by decide +kernel
theorem dX9_isCommonGood_215 : decode cX9_isCommonGood 215 = .ok (.bipush 40, 2) := by decide +kernel
theorem dX9_isCommonGood_217 : decode cX9_isCommonGood 217 = .ok (.iload_n 3, 1) := by decide +kernel
theorem dX9_isCommonGood_218 : decode cX9_isCommonGood 218 = .ok (.imul, 1) := by decide +kernel
theorem dX9_isCommonGood_219 : decode cX9_isCommonGood 219 = .ok (.iload 4, 2) := by decide +kernel
theorem dX9_isCommonGood_221 : decode cX9_isCommonGood 221 = .ok (.iadd, 1) := by decide +kernel
theorem dX9_isCommonGood_222 : decode cX9_isCommonGood 222 = .ok (.iaload, 1) := by decide +kernel
theorem dX9_isCommonGood_223 : decode cX9_isCommonGood 223 = .ok (.iconst 5, 1) := by decide +kernel
theorem dX9_isCommonGood_224 : decode cX9_isCommonGood 224 = .ok (.if_icmp .ne 32, 3) := by decide +kernel
theorem dX9_isCommonGood_227 : decode cX9_isCommonGood 227 = .ok (.aload_n 0, 1) := by decide +kernel
theorem dX9_isCommonGood_228 : decode cX9_isCommonGood 228 = .ok (.getfield 29, 3) := by decide +kernel
theorem dX9_isCommonGood_231 : decode cX9_isCommonGood 231 = .ok (.bipush 40, 2) := by decide +kernel
theorem dX9_isCommonGood_233 : decode cX9_isCommonGood 233 = .ok (.iload_n 3, 1) := by decide +kernel
theorem dX9_isCommonGood_234 : decode cX9_isCommonGood 234 = .ok (.imul, 1) := by decide +kernel
theorem dX9_isCommonGood_235 : decode cX9_isCommonGood 235 = .ok (.iload 4, 2) := by decide +kernel
theorem dX9_isCommonGood_237 : decode cX9_isCommonGood 237 = .ok (.iadd, 1) := by decide +kernel
theorem dX9_isCommonGood_238 : decode cX9_isCommonGood 238 = .ok (.iaload, 1) := by decide +kernel
theorem dX9_isCommonGood_239 : decode cX9_isCommonGood 239 = .ok (.iload_n 1, 1) := by decide +kernel
theorem dX9_isCommonGood_240 : decode cX9_isCommonGood 240 = .ok (.if_icmp .ne 16, 3) := by decide +kernel
theorem dX9_isCommonGood_243 : decode cX9_isCommonGood 243 = .ok (.aload_n 0, 1) := by decide +kernel
theorem dX9_isCommonGood_244 : decode cX9_isCommonGood 244 = .ok (.iload_n 3, 1) := by decide +kernel
theorem dX9_isCommonGood_245 : decode cX9_isCommonGood 245 = .ok (.iload_n 1, 1) := by decide +kernel
theorem dX9_isCommonGood_246 : decode cX9_isCommonGood 246 = .ok (.invokevirtual 162, 3) := by decide +kernel
theorem dX9_isCommonGood_249 : decode cX9_isCommonGood 249 = .ok (.ifCond .eq 7, 3) := by decide +kernel
theorem dX9_isCommonGood_252 : decode cX9_isCommonGood 252 = .ok (.iconst 1, 1) := by decide +kernel
theorem dX9_isCommonGood_253 : decode cX9_isCommonGood 253 = .ok (.goto 4, 3) := by decide +kernel
theorem dX9_isCommonGood_256 : decode cX9_isCommonGood 256 = .ok (.iconst 0, 1) := by decide +kernel
theorem dX9_isCommonGood_257 : decode cX9_isCommonGood 257 = .ok (.iadd, 1) := by decide +kernel
theorem dX9_isCommonGood_258 : decode cX9_isCommonGood 258 = .ok (.istore_n 2, 1) := by decide +kernel
theorem dX9_isCommonGood_259 : decode cX9_isCommonGood 259 = .ok (.iinc 4 1, 3) := by decide +kernel
theorem dX9_isCommonGood_262 : decode cX9_isCommonGood 262 = .ok (.goto (-63), 3) := by decide +kernel
theorem dX9_isCommonGood_265 : decode cX9_isCommonGood 265 = .ok (.iinc 3 1, 3) := by decide +kernel
theorem dX9_isCommonGood_268 : decode cX9_isCommonGood 268 = .ok (.goto (-80), 3) := by decide +kernel
theorem dX9_isCommonGood_271 : decode cX9_isCommonGood 271 = .ok (.aload_n 0, 1) := by decide +kernel
theorem dX9_isCommonGood_272 : decode cX9_isCommonGood 272 = .ok (.getfield 44, 3) := by decide +kernel
theorem dX9_isCommonGood_275 : decode cX9_isCommonGood 275 = .ok (.iload_n 1, 1) := by decide +kernel
theorem dX9_isCommonGood_276 : decode cX9_isCommonGood 276 = .ok (.iload_n 2, 1) := by decide +kernel
theorem dX9_isCommonGood_277 : decode cX9_isCommonGood 277 = .ok (.ifCond .le 10, 3) := by decide +kernel
theorem dX9_isCommonGood_280 : decode cX9_isCommonGood 280 = .ok (.aload_n 0, 1) := by decide +kernel
theorem dX9_isCommonGood_281 : decode cX9_isCommonGood 281 = .ok (.getfield 153, 3) := by decide +kernel
theorem dX9_isCommonGood_284 : decode cX9_isCommonGood 284 = .ok (.goto 4, 3) := by decide +kernel
theorem dX9_isCommonGood_287 : decode cX9_isCommonGood 287 = .ok (.iconst (-1), 1) := by decide +kernel
theorem dX9_isCommonGood_288 : decode cX9_isCommonGood 288 = .ok (.iastore, 1) := by decide +kernel
theorem dX9_isCommonGood_289 : decode cX9_isCommonGood 289 = .ok (.aload_n 0, 1) := by decide +kernel
theorem dX9_isCommonGood_290 : decode cX9_isCommonGood 290 = .ok (.dup, 1) := by decide +kernel
theorem dX9_isCommonGood_291 : decode cX9_isCommonGood 291 = .ok (.getfield 156, 3) := by decide +kernel
theorem dX9_isCommonGood_294 : decode cX9_isCommonGood 294 = .ok (.iload_n 2, 1) := by decide +kernel
theorem dX9_isCommonGood_295 : decode cX9_isCommonGood 295 = .ok (.ifCond .le 7, 3) := by decide +kernel
theorem dX9_isCommonGood_298 : decode cX9_isCommonGood 298 = .ok (.iconst 1, 1) := by decide +kernel
theorem dX9_isCommonGood_299 : decode cX9_isCommonGood 299 = .ok (.goto 4, 3) := by decide +kernel
theorem dX9_isCommonGood_302 : decode cX9_isCommonGood 302 = .ok (.iconst 0, 1) := by decide +kernel
theorem dX9_isCommonGood_303 : decode cX9_isCommonGood 303 = .ok (.iadd, 1) := by decide +kernel
theorem dX9_isCommonGood_304 : decode cX9_isCommonGood 304 = .ok (.putfield 156, 3) := by decide +kernel
theorem dX9_isCommonGood_307 : decode cX9_isCommonGood 307 = .ok (.aload_n 0, 1) := by decide +kernel
theorem dX9_isCommonGood_308 : decode cX9_isCommonGood 308 = .ok (.dup, 1) := by decide +kernel
theorem dX9_isCommonGood_309 : decode cX9_isCommonGood 309 = .ok (.getfield 153, 3) := by decide +kernel
theorem dX9_isCommonGood_312 : decode cX9_isCommonGood 312 = .ok (.iload_n 2, 1) := by decide +kernel
theorem dX9_isCommonGood_313 : decode cX9_isCommonGood 313 = .ok (.ifCond .le 8, 3) := by decide +kernel
theorem dX9_isCommonGood_316 : decode cX9_isCommonGood 316 = .ok (.bipush 8, 2) := by decide +kernel
theorem dX9_isCommonGood_318 : decode cX9_isCommonGood 318 = .ok (.goto 4, 3) := by decide +kernel
theorem dX9_isCommonGood_321 : decode cX9_isCommonGood 321 = .ok (.iconst 0, 1) := by decide +kernel
theorem dX9_isCommonGood_322 : decode cX9_isCommonGood 322 = .ok (.iadd, 1) := by decide +kernel
theorem dX9_isCommonGood_323 : decode cX9_isCommonGood 323 = .ok (.putfield 153, 3) := by decide +kernel
theorem dX9_isCommonGood_326 : decode cX9_isCommonGood 326 = .ok (.aload_n 0, 1) := by decide +kernel
theorem dX9_isCommonGood_327 : decode cX9_isCommonGood 327 = .ok (.dup, 1) := by decide +kernel
theorem dX9_isCommonGood_328 : decode cX9_isCommonGood 328 = .ok (.getfield 159, 3) := by decide +kernel
theorem dX9_isCommonGood_331 : decode cX9_isCommonGood 331 = .ok (.iload_n 2, 1) := by decide +kernel
theorem dX9_isCommonGood_332 : decode cX9_isCommonGood 332 = .ok (.iadd, 1) := by decide +kernel
theorem dX9_isCommonGood_333 : decode cX9_isCommonGood 333 = .ok (.putfield 159, 3) := by decide +kernel
theorem dX9_isCommonGood_336 : decode cX9_isCommonGood 336 = .ok (.iinc 1 1, 3) := by decide +kernel
theorem dX9_isCommonGood_339 : decode cX9_isCommonGood 339 = .ok (.goto (-163), 3) := by decide +kernel
theorem dX9_isCommonGood_342 : decode cX9_isCommonGood 342 = .ok (.aload_n 0, 1) := by decide +kernel
theorem dX9_isCommonGood_343 : decode cX9_isCommonGood 343 = .ok (.getfield 153, 3) := by decide +kernel
theorem dX9_isCommonGood_346 : decode cX9_isCommonGood 346 = .ok (.aload_n 0, 1) := by decide +kernel
theorem dX9_isCommonGood_347 : decode cX9_isCommonGood 347 = .ok (.getfield 32, 3) := by decide +kernel
theorem dX9_isCommonGood_350 : decode cX9_isCommonGood 350 = .ok (.iconst 2, 1) := by decide +kernel
theorem dX9_isCommonGood_351 : decode cX9_isCommonGood 351 = .ok (.iaload, 1) := by decide +kernel
theorem dX9_isCommonGood_352 : decode cX9_isCommonGood 352 = .ok (.if_icmp .le 13, 3) := by decide +kernel
theorem dX9_isCommonGood_355 : decode cX9_isCommonGood 355 = .ok (.aload_n 0, 1) := by decide +kernel
theorem dX9_isCommonGood_356 : decode cX9_isCommonGood 356 = .ok (.iconst 5, 1) := by decide +kernel
theorem dX9_isCommonGood_357 : decode cX9_isCommonGood 357 = .ok (.iconst (-1), 1) := by decide +kernel
theorem dX9_isCommonGood_358 : decode cX9_isCommonGood 358 = .ok (.iconst (-1), 1) := by decide +kernel
theorem dX9_isCommonGood_359 : decode cX9_isCommonGood 359 = .ok (.invokevirtual 147, 3) := by decide +kernel
theorem dX9_isCommonGood_362 : decode cX9_isCommonGood 362 = .ok (.ifCond .eq 7, 3) := by decide +kernel
theorem dX9_isCommonGood_365 : decode cX9_isCommonGood 365 = .ok (.iconst 1, 1) := by decide +kernel
theorem dX9_isCommonGood_366 : decode cX9_isCommonGood 366 = .ok (.goto 4, 3) := by decide +kernel
theorem dX9_isCommonGood_369 : decode cX9_isCommonGood 369 = .ok (.iconst 0, 1) := by decide +kernel
theorem dX9_isCommonGood_370 : decode cX9_isCommonGood 370 = .ok (.ireturn, 1) := by decide +kernel
theorem dX9_areCellsGood_0 : decode cX9_areCellsGood 0 = .ok (.iconst 0, 1) := by decide +kernel
theorem dX9_areCellsGood_1 : decode cX9_areCellsGood 1 = .ok (.istore_n 1, 1) := by decide +kernel
theorem dX9_areCellsGood_2 : decode cX9_areCellsGood 2 = .ok (.iload_n 1, 1) := by decide +kernel
theorem dX9_areCellsGood_3 : decode cX9_areCellsGood 3 = .ok (.aload_n 0, 1) := by decide +kernel
theorem dX9_areCellsGood_4 : decode cX9_areCellsGood 4 = .ok (.getfield 90, 3) := by decide +kernel
theorem dX9_areCellsGood_7 : decode cX9_areCellsGood 7 = .ok (.if_icmp .ge 23, 3) := by decide +kernel
theorem dX9_areCellsGood_10 : decode cX9_areCellsGood 10 = .ok (.aload_n 0, 1) := by decide +kernel
theorem dX9_areCellsGood_11 : decode cX9_areCellsGood 11 = .ok (.getfield 47, 3) := by decide +kernel
theorem dX9_areCellsGood_14 : decode cX9_areCellsGood 14 = .ok (.iload_n 1, 1) := by decide +kernel
theorem dX9_areCellsGood_15 : decode cX9_areCellsGood 15 = .ok (.iconst 0, 1) := by decide +kernel
theorem dX9_areCellsGood_16 : decode cX9_areCellsGood 16 = .ok (.iastore, 1) := by decide +kernel
theorem dX9_areCellsGood_17 : decode cX9_areCellsGood 17 = .ok (.aload_n 0, 1) := by decide +kernel
theorem dX9_areCellsGood_18 : decode cX9_areCellsGood 18 = .ok (.getfield 50, 3) := by decide +kernel
theorem dX9_areCellsGood_21 : decode cX9_areCellsGood 21 = .ok (.iload_n 1, 1) := by decide +kernel
theorem dX9_areCellsGood_22 : decode cX9_areCellsGood 22 = .ok (.iconst 0, 1) := by decide +kernel
theorem dX9_areCellsGood_23 : decode cX9_areCellsGood 23 = .ok (.iastore, 1) := by decide +kernel
theorem dX9_areCellsGood_24 : decode cX9_areCellsGood 24 = .ok (.iinc 1 1, 3) := by decide +kernel
theorem dX9_areCellsGood_27 : decode cX9_areCellsGood 27 = .ok (.goto (-25), 3) := by decide +kernel
theorem dX9_areCellsGood_30 : decode cX9_areCellsGood 30 = .ok (.iconst 0, 1) := by decide +kernel
theorem dX9_areCellsGood_31 : decode cX9_areCellsGood 31 = .ok (.istore_n 1, 1) := by decide +kernel
theorem dX9_areCellsGood_32 : decode cX9_areCellsGood 32 = .ok (.iload_n 1, 1) := by decide +kernel
theorem dX9_areCellsGood_33 : decode cX9_areCellsGood 33 = .ok (.aload_n 0, 1) := by decide +kernel
theorem dX9_areCellsGood_34 : decode cX9_areCellsGood 34 = .ok (.getfield 90, 3) := by decide +kernel
theorem dX9_areCellsGood_37 : decode cX9_areCellsGood 37 = .ok (.if_icmp .ge 177, 3) := by decide +kernel
theorem dX9_areCellsGood_40 : decode cX9_areCellsGood 40 = .ok (.iconst 0, 1) := by decide +kernel
theorem dX9_areCellsGood_41 : decode cX9_areCellsGood 41 = .ok (.istore_n 2, 1) := by decide +kernel
theorem dX9_areCellsGood_42 : decode cX9_areCellsGood 42 = .ok (.iload_n 2, 1) := by decide +kernel
theorem dX9_areCellsGood_43 : decode cX9_areCellsGood 43 = .ok (.aload_n 0, 1) := by decide +kernel
theorem dX9_areCellsGood_44 : decode cX9_areCellsGood 44 = .ok (.getfield 90, 3) := by decide +kernel
theorem dX9_areCellsGood_47 : decode cX9_areCellsGood 47 = .ok (.if_icmp .ge 161, 3) := by decide +kernel
theorem dX9_areCellsGood_50 : decode cX9_areCellsGood 50 = .ok (.iconst 0, 1) := by decide +kernel
theorem dX9_areCellsGood_51 : decode cX9_areCellsGood 51 = .ok (.istore_n 3, 1) := by decide +kernel
theorem dX9_areCellsGood_52 : decode cX9_areCellsGood 52 = .ok (.iload_n 3, 1) := by decide +kernel
theorem dX9_areCellsGood_53 : decode cX9_areCellsGood 53 = .ok (.aload_n 0, 1) := by decide +kernel
theorem dX9_areCellsGood_54 : decode cX9_areCellsGood 54 = .ok (.getfield 23, 3) := by decide +kernel
theorem dX9_areCellsGood_57 : decode cX9_areCellsGood 57 = .ok (.iload_n 2, 1) := by decide +kernel
theorem dX9_areCellsGood_58 : decode cX9_areCellsGood 58 = .ok (.iaload, 1) := by decide +kernel
theorem dX9_areCellsGood_59 : decode cX9_areCellsGood 59 = .ok (.if_icmp .ge 143, 3) := by decide +kernel
theorem dX9_areCellsGood_62 : decode cX9_areCellsGood 62 = .ok (.aload_n 0, 1) := by decide +kernel
theorem dX9_areCellsGood_63 : decode cX9_areCellsGood 63 = .ok (.getfield 26, 3) := by decide +kernel
theorem dX9_areCellsGood_66 : decode cX9_areCellsGood 66 = .ok (.bipush 40, 2) := by decide +kernel
theorem dX9_areCellsGood_68 : decode cX9_areCellsGood 68 = .ok (.iload_n 2, 1) := by decide +kernel
theorem dX9_areCellsGood_69 : decode cX9_areCellsGood 69 = .ok (.imul, 1) := by decide +kernel
theorem dX9_areCellsGood_70 : decode cX9_areCellsGood 70 = .ok (.iload_n 3, 1) := by decide +kernel
theorem dX9_areCellsGood_71 : decode cX9_areCellsGood 71 = .ok (.iadd, 1) := by decide +kernel
theorem dX9_areCellsGood_72 : decode cX9_areCellsGood 72 = .ok (.iaload, 1) := by decide +kernel
theorem dX9_areCellsGood_73 : decode cX9_areCellsGood 73 = .ok (.iconst 5, 1) := by decide +kernel
theorem dX9_areCellsGood_74 : decode cX9_areCellsGood 74 = .ok (.if_icmp .ne 122, 3) := by decide +kernel
theorem dX9_areCellsGood_77 : decode cX9_areCellsGood 77 = .ok (.aload_n 0, 1) := by decide +kernel
theorem dX9_areCellsGood_78 : decode cX9_areCellsGood 78 = .ok (.getfield 29, 3) := by decide +kernel
theorem dX9_areCellsGood_81 : decode cX9_areCellsGood 81 = .ok (.bipush 40, 2) := by decide +kernel
theorem dX9_areCellsGood_83 : decode cX9_areCellsGood 83 = .ok (.iload_n 2, 1) := by decide +kernel
theorem dX9_areCellsGood_84 : decode cX9_areCellsGood 84 = .ok (.imul, 1) := by decide +kernel
theorem dX9_areCellsGood_85 : decode cX9_areCellsGood 85 = .ok (.iload_n 3, 1) := by decide +kernel
theorem dX9_areCellsGood_86 : decode cX9_areCellsGood 86 = .ok (.iadd, 1) := by decide +kernel
theorem dX9_areCellsGood_87 : decode cX9_areCellsGood 87 = .ok (.iaload, 1) := by decide +kernel
theorem dX9_areCellsGood_88 : decode cX9_areCellsGood 88 = .ok (.istore 4, 2) := by decide +kernel
theorem dX9_areCellsGood_90 : decode cX9_areCellsGood 90 = .ok (.aload_n 0, 1) := by decide +kernel
theorem dX9_areCellsGood_91 : decode cX9_areCellsGood 91 = .ok (.getfield 50, 3) := by decide +kernel
theorem dX9_areCellsGood_94 : decode cX9_areCellsGood 94 = .ok (.iload 4, 2) := by decide +kernel
theorem dX9_areCellsGood_96 : decode cX9_areCellsGood 96 = .ok (.iaload, 1) := by decide +kernel
theorem dX9_areCellsGood_97 : decode cX9_areCellsGood 97 = .ok (.aload_n 0, 1) := by decide +kernel
theorem dX9_areCellsGood_98 : decode cX9_areCellsGood 98 = .ok (.iload_n 2, 1) := by decide +kernel
theorem dX9_areCellsGood_99 : decode cX9_areCellsGood 99 = .ok (.iload 4, 2) := by decide +kernel
theorem dX9_areCellsGood_101 : decode cX9_areCellsGood 101 = .ok (.invokevirtual 162, 3) := by decide +kernel
theorem dX9_areCellsGood_104 : decode cX9_areCellsGood 104 = .ok (.ifCond .eq 7, 3) := by decide +kernel
theorem dX9_areCellsGood_107 : decode cX9_areCellsGood 107 = .ok (.iconst 3, 1) := by decide +kernel
theorem dX9_areCellsGood_108 : decode cX9_areCellsGood 108 = .ok (.goto 4, 3) := by decide +kernel
theorem dX9_areCellsGood_111 : decode cX9_areCellsGood 111 = .ok (.iconst 1, 1) := by decide +kernel
theorem dX9_areCellsGood_112 : decode cX9_areCellsGood 112 = .ok (.iadd, 1) := by decide +kernel
theorem dX9_areCellsGood_113 : decode cX9_areCellsGood 113 = .ok (.istore 5, 2) := by decide +kernel
theorem dX9_areCellsGood_115 : decode cX9_areCellsGood 115 = .ok (.aload_n 0, 1) := by decide +kernel
theorem dX9_areCellsGood_116 : decode cX9_areCellsGood 116 = .ok (.getfield 47, 3) := by decide +kernel
theorem dX9_areCellsGood_119 : decode cX9_areCellsGood 119 = .ok (.iload 4, 2) := by decide +kernel
theorem dX9_areCellsGood_121 : decode cX9_areCellsGood 121 = .ok (.aload_n 0, 1) := by decide +kernel
theorem dX9_areCellsGood_122 : decode cX9_areCellsGood 122 = .ok (.getfield 47, 3) := by decide +kernel
theorem dX9_areCellsGood_125 : decode cX9_areCellsGood 125 = .ok (.iload_n 2, 1) := by decide +kernel
theorem dX9_areCellsGood_126 : decode cX9_areCellsGood 126 = .ok (.iaload, 1) := by decide +kernel
theorem dX9_areCellsGood_127 : decode cX9_areCellsGood 127 = .ok (.aload_n 0, 1) := by decide +kernel
theorem dX9_areCellsGood_128 : decode cX9_areCellsGood 128 = .ok (.getfield 20, 3) := by decide +kernel
theorem dX9_areCellsGood_131 : decode cX9_areCellsGood 131 = .ok (.iload_n 2, 1) := by decide +kernel
theorem dX9_areCellsGood_132 : decode cX9_areCellsGood 132 = .ok (.iaload, 1) := by decide +kernel
theorem dX9_areCellsGood_133 : decode cX9_areCellsGood 133 = .ok (.iadd, 1) := by decide +kernel
theorem dX9_areCellsGood_134 : decode cX9_areCellsGood 134 = .ok (.aload_n 0, 1) := by decide +kernel
theorem dX9_areCellsGood_135 : decode cX9_areCellsGood 135 = .ok (.getfield 47, 3) := by decide +kernel
theorem dX9_areCellsGood_138 : decode cX9_areCellsGood 138 = .ok (.iload 4, 2) := by decide +kernel
theorem dX9_areCellsGood_140 : decode cX9_areCellsGood 140 = .ok (.iaload, 1) := by decide +kernel
theorem dX9_areCellsGood_141 : decode cX9_areCellsGood 141 = .ok (.if_icmp .le 19, 3) := by decide +kernel
theorem dX9_areCellsGood_144 : decode cX9_areCellsGood 144 = .ok (.aload_n 0, 1) := by decide +kernel
theorem dX9_areCellsGood_145 : decode cX9_areCellsGood 145 = .ok (.getfield 47, 3) := by decide +kernel
theorem dX9_areCellsGood_148 : decode cX9_areCellsGood 148 = .ok (.iload_n 2, 1) := by decide +kernel
theorem dX9_areCellsGood_149 : decode cX9_areCellsGood 149 = .ok (.iaload, 1) := by decide +kernel
theorem dX9_areCellsGood_150 : decode cX9_areCellsGood 150 = .ok (.aload_n 0, 1) := by decide +kernel
theorem dX9_areCellsGood_151 : decode cX9_areCellsGood 151 = .ok (.getfield 20, 3) := by decide +kernel
theorem dX9_areCellsGood_154 : decode cX9_areCellsGood 154 = .ok (.iload_n 2, 1) := by decide +kernel
theorem dX9_areCellsGood_155 : decode cX9_areCellsGood 155 = .ok (.iaload, 1) := by decide +kernel
theorem dX9_areCellsGood_156 : decode cX9_areCellsGood 156 = .ok (.iadd, 1) := by decide +kernel
theorem dX9_areCellsGood_157 : decode cX9_areCellsGood 157 = .ok (.goto 10, 3) := by decide +kernel
theorem dX9_areCellsGood_160 : decode cX9_areCellsGood 160 = .ok (.aload_n 0, 1) := by decide +kernel
theorem dX9_areCellsGood_161 : decode cX9_areCellsGood 161 = .ok (.getfield 47, 3) := by decide +kernel
theorem dX9_areCellsGood_164 : decode cX9_areCellsGood 164 = .ok (.iload 4, 2) := by decide +kernel
theorem dX9_areCellsGood_166 : decode cX9_areCellsGood 166 = .ok (.iaload, 1) := by decide +kernel
theorem dX9_areCellsGood_167 : decode cX9_areCellsGood 167 = .ok (.iastore, 1) := by decide +kernel
theorem dX9_areCellsGood_168 : decode cX9_areCellsGood 168 = .ok (.aload_n 0, 1) := by decide +kernel
theorem dX9_areCellsGood_169 : decode cX9_areCellsGood 169 = .ok (.getfield 50, 3) := by decide +kernel
theorem dX9_areCellsGood_172 : decode cX9_areCellsGood 172 = .ok (.iload_n 2, 1) := by decide +kernel
theorem dX9_areCellsGood_173 : decode cX9_areCellsGood 173 = .ok (.iload 5, 2) := by decide +kernel
theorem dX9_areCellsGood_175 : decode cX9_areCellsGood 175 = .ok (.aload_n 0, 1) := by decide +kernel
theorem dX9_areCellsGood_176 : decode cX9_areCellsGood 176 = .ok (.getfield 50, 3) := by decide +kernel
theorem dX9_areCellsGood_179 : decode cX9_areCellsGood 179 = .ok (.iload_n 2, 1) := by decide +kernel
theorem dX9_areCellsGood_180 : decode cX9_areCellsGood 180 = .ok (.iaload, 1) := by decide +kernel
theorem dX9_areCellsGood_181 : decode cX9_areCellsGood 181 = .ok (.if_icmp .le 8, 3) := by decide +kernel
theorem dX9_areCellsGood_184 : decode cX9_areCellsGood 184 = .ok (.iload 5, 2) := by decide +kernel
theorem dX9_areCellsGood_186 : decode cX9_areCellsGood 186 = .ok (.goto 9, 3) := by decide +kernel
theorem dX9_areCellsGood_189 : decode cX9_areCellsGood 189 = .ok (.aload_n 0, 1) := by decide +kernel
theorem dX9_areCellsGood_190 : decode cX9_areCellsGood 190 = .ok (.getfield 50, 3) := by decide +kernel
theorem dX9_areCellsGood_193 : decode cX9_areCellsGood 193 = .ok (.iload_n 2, 1) := by decide +kernel
theorem dX9_areCellsGood_194 : decode cX9_areCellsGood 194 = .ok (.iaload, 1) := by decide +kernel
theorem dX9_areCellsGood_195 : decode cX9_areCellsGood 195 = .ok (.iastore, 1) := by decide +kernel
theorem dX9_areCellsGood_196 : decode cX9_areCellsGood 196 = .ok (.iinc 3 1, 3) := by decide +kernel
theorem dX9_areCellsGood_199 : decode cX9_areCellsGood 199 = .ok (.goto (-147), 3) := by decide +kernel
theorem dX9_areCellsGood_202 : decode cX9_areCellsGood 202 = .ok (.iinc 2 1, 3) := by decide +kernel
theorem dX9_areCellsGood_205 : decode cX9_areCellsGood 205 = .ok (.goto (-163), 3) := by decide +kernel
theorem dX9_areCellsGood_208 : decode cX9_areCellsGood 208 = .ok (.iinc 1 1, 3) := by decide +kernel
theorem dX9_areCellsGood_211 : decode cX9_areCellsGood 211 = .ok (.goto (-179), 3) := by decide +kernel
theorem dX9_areCellsGood_214 : decode cX9_areCellsGood 214 = .ok (.iconst 0, 1) := by decide +kernel
theorem dX9_areCellsGood_215 : decode cX9_areCellsGood 215 = .ok (.istore_n 1, 1) := by decide +kernel
theorem dX9_areCellsGood_216 : decode cX9_areCellsGood 216 = .ok (.iload_n 1, 1) := by decide +kernel
theorem dX9_areCellsGood_217 : decode cX9_areCellsGood 217 = .ok (.aload_n 0, 1) := by decide +kernel
theorem dX9_areCellsGood_218 : decode cX9_areCellsGood 218 = .ok (.getfield 90, 3) := by decide +kernel
theorem dX9_areCellsGood_221 : decode cX9_areCellsGood 221 = .ok (.if_icmp .ge 40, 3) := by decide +kernel
theorem dX9_areCellsGood_224 : decode cX9_areCellsGood 224 = .ok (.aload_n 0, 1) := by decide +kernel
theorem dX9_areCellsGood_225 : decode cX9_areCellsGood 225 = .ok (.getfield 47, 3) := by decide +kernel
theorem dX9_areCellsGood_228 : decode cX9_areCellsGood 228 = .ok (.iload_n 1, 1) := by decide +kernel
theorem dX9_areCellsGood_229 : decode cX9_areCellsGood 229 = .ok (.iaload, 1) := by decide +kernel
theorem dX9_areCellsGood_230 : decode cX9_areCellsGood 230 = .ok (.aload_n 0, 1) := by decide +kernel
theorem dX9_areCellsGood_231 : decode cX9_areCellsGood 231 = .ok (.getfield 20, 3) := by decide +kernel
theorem dX9_areCellsGood_234 : decode cX9_areCellsGood 234 = .ok (.iload_n 1, 1) := by decide +kernel
theorem dX9_areCellsGood_235 : decode cX9_areCellsGood 235 = .ok (.iaload, 1) := by decide +kernel
theorem dX9_areCellsGood_236 : decode cX9_areCellsGood 236 = .ok (.iadd, 1) := by decide +kernel
theorem dX9_areCellsGood_237 : decode cX9_areCellsGood 237 = .ok (.aload_n 0, 1) := by decide +kernel
theorem dX9_areCellsGood_238 : decode cX9_areCellsGood 238 = .ok (.getfield 32, 3) := by decide +kernel
theorem dX9_areCellsGood_241 : decode cX9_areCellsGood 241 = .ok (.iconst 4, 1) := by decide +kernel
theorem dX9_areCellsGood_242 : decode cX9_areCellsGood 242 = .ok (.iaload, 1) := by decide +kernel
theorem dX9_areCellsGood_243 : decode cX9_areCellsGood 243 = .ok (.if_icmp .le 12, 3) := by decide +kernel
theorem dX9_areCellsGood_246 : decode cX9_areCellsGood 246 = .ok (.aload_n 0, 1) := by decide +kernel
theorem dX9_areCellsGood_247 : decode cX9_areCellsGood 247 = .ok (.bipush 6, 2) := by decide +kernel
theorem dX9_areCellsGood_249 : decode cX9_areCellsGood 249 = .ok (.iload_n 1, 1) := by decide +kernel
theorem dX9_areCellsGood_250 : decode cX9_areCellsGood 250 = .ok (.iconst (-1), 1) := by decide +kernel
theorem dX9_areCellsGood_251 : decode cX9_areCellsGood 251 = .ok (.invokevirtual 147, 3) := by decide +kernel
theorem dX9_areCellsGood_254 : decode cX9_areCellsGood 254 = .ok (.ireturn, 1) := by decide +kernel
theorem dX9_areCellsGood_255 : decode cX9_areCellsGood 255 = .ok (.iinc 1 1, 3) := by decide +kernel
theorem dX9_areCellsGood_258 : decode cX9_areCellsGood 258 = .ok (.goto (-42), 3) := by decide +kernel
theorem dX9_areCellsGood_261 : decode cX9_areCellsGood 261 = .ok (.iconst 0, 1) := by decide +kernel
theorem dX9_areCellsGood_262 : decode cX9_areCellsGood 262 = .ok (.istore_n 1, 1) := by decide +kernel
theorem dX9_areCellsGood_263 : decode cX9_areCellsGood 263 = .ok (.iload_n 1, 1) := by decide +kernel
theorem dX9_areCellsGood_264 : decode cX9_areCellsGood 264 = .ok (.aload_n 0, 1) := by decide +kernel
theorem dX9_areCellsGood_265 : decode cX9_areCellsGood 265 = .ok (.getfield 90, 3) := by decide +kernel
theorem dX9_areCellsGood_268 : decode cX9_areCellsGood 268 = .ok (.if_icmp .ge 33, 3) := by decide +kernel
theorem dX9_areCellsGood_271 : decode cX9_areCellsGood 271 = .ok (.aload_n 0, 1) := by decide +kernel
theorem dX9_areCellsGood_272 : decode cX9_areCellsGood 272 = .ok (.getfield 50, 3) := by decide +kernel
theorem dX9_areCellsGood_275 : decode cX9_areCellsGood 275 = .ok (.iload_n 1, 1) := by decide +kernel
theorem dX9_areCellsGood_276 : decode cX9_areCellsGood 276 = .ok (.iaload, 1) := by decide +kernel
theorem dX9_areCellsGood_277 : decode cX9_areCellsGood 277 = .ok (.aload_n 0, 1) := by decide +kernel
theorem dX9_areCellsGood_278 : decode cX9_areCellsGood 278 = .ok (.getfield 32, 3) := by decide +kernel
theorem dX9_areCellsGood_281 : decode cX9_areCellsGood 281 = .ok (.iconst 3, 1) := by decide +kernel
theorem dX9_areCellsGood_282 : decode cX9_areCellsGood 282 = .ok (.iaload, 1) := by decide +kernel
theorem dX9_areCellsGood_283 : decode cX9_areCellsGood 283 = .ok (.if_icmp .le 12, 3) := by decide +kernel
theorem dX9_areCellsGood_286 : decode cX9_areCellsGood 286 = .ok (.aload_n 0, 1) := by decide +kernel
theorem dX9_areCellsGood_287 : decode cX9_areCellsGood 287 = .ok (.bipush 7, 2) := by decide +kernel
theorem dX9_areCellsGood_289 : decode cX9_areCellsGood 289 = .ok (.iload_n 1, 1) := by decide +kernel
theorem dX9_areCellsGood_290 : decode cX9_areCellsGood 290 = .ok (.iconst (-1), 1) := by decide +kernel
theorem dX9_areCellsGood_291 : decode cX9_areCellsGood 291 = .ok (.invokevirtual 147, 3) := by decide +kernel
theorem dX9_areCellsGood_294 : decode cX9_areCellsGood 294 = .ok (.ireturn, 1) := by decide +kernel
theorem dX9_areCellsGood_295 : decode cX9_areCellsGood 295 = .ok (.iinc 1 1, 3) := by decide +kernel
theorem dX9_areCellsGood_298 : decode cX9_areCellsGood 298 = .ok (.goto (-35), 3) := by decide +kernel
theorem dX9_areCellsGood_301 : decode cX9_areCellsGood 301 = .ok (.iconst 1, 1) := by decide +kernel
theorem dX9_areCellsGood_302 : decode cX9_areCellsGood 302 = .ok (.ireturn, 1) := by decide +kernel
theorem dX9_put_0 : decode cX9_put 0 = .ok (.aload_n 0, 1) := by decide +kernel
theorem dX9_put_1 : decode cX9_put 1 = .ok (.iload_n 1, 1) := by decide +kernel
theorem dX9_put_2 : decode cX9_put 2 = .ok (.invokevirtual 141, 3) := by decide +kernel
theorem dX9_put_5 : decode cX9_put 5 = .ok (.ifCond .eq 20, 3) := by decide +kernel
theorem dX9_put_8 : decode cX9_put 8 = .ok (.aload_n 0, 1) := by decide +kernel
theorem dX9_put_9 : decode cX9_put 9 = .ok (.getfield 53, 3) := by decide +kernel
theorem dX9_put_12 : decode cX9_put 12 = .ok (.aload_n 0, 1) := by decide +kernel
theorem dX9_put_13 : decode cX9_put 13 = .ok (.getfield 41, 3) := by decide +kernel
theorem dX9_put_16 : decode cX9_put 16 = .ok (.iload_n 1, 1) := by decide +kernel
theorem dX9_put_17 : decode cX9_put 17 = .ok (.iaload, 1) := by decide +kernel
theorem dX9_put_18 : decode cX9_put 18 = .ok (.iload_n 2, 1) := by decide +kernel
theorem dX9_put_19 : decode cX9_put 19 = .ok (.iadd, 1) := by decide +kernel
theorem dX9_put_20 : decode cX9_put 20 = .ok (.iload_n 3, 1) := by decide +kernel
theorem dX9_put_21 : decode cX9_put 21 = .ok (.iastore, 1) := by decide +kernel
theorem dX9_put_22 : decode cX9_put 22 = .ok (.goto 37, 3) := by decide +kernel
theorem dX9_put_25 : decode cX9_put 25 = .ok (.aload_n 0, 1) := by decide +kernel
theorem dX9_put_26 : decode cX9_put 26 = .ok (.getfield 56, 3) := by decide +kernel
theorem dX9_put_29 : decode cX9_put 29 = .ok (.sipush 250, 3) := by decide +kernel
theorem dX9_put_32 : decode cX9_put 32 = .ok (.aload_n 0, 1) := by decide +kernel
theorem dX9_put_33 : decode cX9_put 33 = .ok (.getfield 35, 3) := by decide +kernel
theorem dX9_put_36 : decode cX9_put 36 = .ok (.aload_n 0, 1) := by decide +kernel
theorem dX9_put_37 : decode cX9_put 37 = .ok (.getfield 17, 3) := by decide +kernel
theorem dX9_put_40 : decode cX9_put 40 = .ok (.iload_n 1, 1) := by decide +kernel
theorem dX9_put_41 : decode cX9_put 41 = .ok (.iaload, 1) := by decide +kernel
theorem dX9_put_42 : decode cX9_put 42 = .ok (.iaload, 1) := by decide +kernel
theorem dX9_put_43 : decode cX9_put 43 = .ok (.imul, 1) := by decide +kernel
theorem dX9_put_44 : decode cX9_put 44 = .ok (.aload_n 0, 1) := by decide +kernel
theorem dX9_put_45 : decode cX9_put 45 = .ok (.getfield 41, 3) := by decide +kernel
theorem dX9_put_48 : decode cX9_put 48 = .ok (.iload_n 1, 1) := by decide +kernel
theorem dX9_put_49 : decode cX9_put 49 = .ok (.iaload, 1) := by decide +kernel
theorem dX9_put_50 : decode cX9_put 50 = .ok (.iadd, 1) := by decide +kernel
theorem dX9_put_51 : decode cX9_put 51 = .ok (.sipush 256, 3) := by decide +kernel
theorem dX9_put_54 : decode cX9_put 54 = .ok (.isub, 1) := by decide +kernel
theorem dX9_put_55 : decode cX9_put 55 = .ok (.iload_n 2, 1) := by decide +kernel
theorem dX9_put_56 : decode cX9_put 56 = .ok (.iadd, 1) := by decide +kernel
theorem dX9_put_57 : decode cX9_put 57 = .ok (.iload_n 3, 1) := by decide +kernel
theorem dX9_put_58 : decode cX9_put 58 = .ok (.iastore, 1) := by decide +kernel
theorem dX9_put_59 : decode cX9_put 59 = .ok (.return_, 1) := by decide +kernel
theorem dX9_write_0 : decode cX9_write 0 = .ok (.iconst 0, 1) := by decide +kernel
theorem dX9_write_1 : decode cX9_write 1 = .ok (.istore_n 2, 1) := by decide +kernel
theorem dX9_write_2 : decode cX9_write 2 = .ok (.aload_n 0, 1) := by decide +kernel
theorem dX9_write_3 : decode cX9_write 3 = .ok (.getfield 20, 3) := by decide +kernel
theorem dX9_write_6 : decode cX9_write 6 = .ok (.iload_n 1, 1) := by decide +kernel
theorem dX9_write_7 : decode cX9_write 7 = .ok (.iaload, 1) := by decide +kernel
theorem dX9_write_8 : decode cX9_write 8 = .ok (.ifCond .le 37, 3) := by decide +kernel
theorem dX9_write_11 : decode cX9_write 11 = .ok (.aload_n 0, 1) := by decide +kernel
theorem dX9_write_12 : decode cX9_write 12 = .ok (.iload_n 1, 1) := by decide +kernel
theorem dX9_write_13 : decode cX9_write 13 = .ok (.iconst 0, 1) := by decide +kernel
theorem dX9_write_14 : decode cX9_write 14 = .ok (.bipush 12, 2) := by decide +kernel
theorem dX9_write_16 : decode cX9_write 16 = .ok (.invokevirtual 166, 3) := by decide +kernel
theorem dX9_write_19 : decode cX9_write 19 = .ok (.aload_n 0, 1) := by decide +kernel
theorem dX9_write_20 : decode cX9_write 20 = .ok (.iload_n 1, 1) := by decide +kernel
theorem dX9_write_21 : decode cX9_write 21 = .ok (.iconst 1, 1) := by decide +kernel
theorem dX9_write_22 : decode cX9_write 22 = .ok (.aload_n 0, 1) := by decide +kernel
theorem dX9_write_23 : decode cX9_write 23 = .ok (.getfield 47, 3) := by decide +kernel
theorem dX9_write_26 : decode cX9_write 26 = .ok (.iload_n 1, 1) := by decide +kernel
theorem dX9_write_27 : decode cX9_write 27 = .ok (.iaload, 1) := by decide +kernel
theorem dX9_write_28 : decode cX9_write 28 = .ok (.invokevirtual 166, 3) := by decide +kernel
theorem dX9_write_31 : decode cX9_write 31 = .ok (.aload_n 0, 1) := by decide +kernel
theorem dX9_write_32 : decode cX9_write 32 = .ok (.iload_n 1, 1) := by decide +kernel
theorem dX9_write_33 : decode cX9_write 33 = .ok (.iconst 2, 1) := by decide +kernel
theorem dX9_write_34 : decode cX9_write 34 = .ok (.aload_n 0, 1) := by decide +kernel
theorem dX9_write_35 : decode cX9_write 35 = .ok (.getfield 20, 3) := by decide +kernel
theorem dX9_write_38 : decode cX9_write 38 = .ok (.iload_n 1, 1) := by decide +kernel
theorem dX9_write_39 : decode cX9_write 39 = .ok (.iaload, 1) := by decide +kernel
theorem dX9_write_40 : decode cX9_write 40 = .ok (.invokevirtual 166, 3) := by decide +kernel
theorem dX9_write_43 : decode cX9_write 43 = .ok (.iconst 3, 1) := by decide +kernel
theorem dX9_write_44 : decode cX9_write 44 = .ok (.istore_n 2, 1) := by decide +kernel
theorem dX9_write_45 : decode cX9_write 45 = .ok (.iconst 0, 1) := by decide +kernel
theorem dX9_write_46 : decode cX9_write 46 = .ok (.istore_n 3, 1) := by decide +kernel
theorem dX9_write_47 : decode cX9_write 47 = .ok (.iload_n 3, 1) := by decide +kernel
theorem dX9_write_48 : decode cX9_write 48 = .ok (.aload_n 0, 1) := by decide +kernel
theorem dX9_write_49 : decode cX9_write 49 = .ok (.getfield 23, 3) := by decide +kernel
theorem dX9_write_52 : decode cX9_write 52 = .ok (.iload_n 1, 1) := by decide +kernel
theorem dX9_write_53 : decode cX9_write 53 = .ok (.iaload, 1) := by decide +kernel
theorem dX9_write_54 : decode cX9_write 54 = .ok (.if_icmp .ge 193, 3) := by decide +kernel
theorem dX9_write_57 : decode cX9_write 57 = .ok (.aload_n 0, 1) := by decide +kernel
theorem dX9_write_58 : decode cX9_write 58 = .ok (.getfield 26, 3) := by decide +kernel
theorem dX9_write_61 : decode cX9_write 61 = .ok (.bipush 40, 2) := by decide +kernel
theorem dX9_write_63 : decode cX9_write 63 = .ok (.iload_n 1, 1) := by decide +kernel
theorem dX9_write_64 : decode cX9_write 64 = .ok (.imul, 1) := by decide +kernel
theorem dX9_write_65 : decode cX9_write 65 = .ok (.iload_n 3, 1) := by decide +kernel
theorem dX9_write_66 : decode cX9_write 66 = .ok (.iadd, 1) := by decide +kernel
theorem dX9_write_67 : decode cX9_write 67 = .ok (.iaload, 1) := by decide +kernel
theorem dX9_write_68 : decode cX9_write 68 = .ok (.istore 4, 2) := by decide +kernel
theorem dX9_write_70 : decode cX9_write 70 = .ok (.aload_n 0, 1) := by decide +kernel
theorem dX9_write_71 : decode cX9_write 71 = .ok (.getfield 29, 3) := by decide +kernel
theorem dX9_write_74 : decode cX9_write 74 = .ok (.bipush 40, 2) := by decide +kernel
theorem dX9_write_76 : decode cX9_write 76 = .ok (.iload_n 1, 1) := by decide +kernel
theorem dX9_write_77 : decode cX9_write 77 = .ok (.imul, 1) := by decide +kernel
theorem dX9_write_78 : decode cX9_write 78 = .ok (.iload_n 3, 1) := by decide +kernel
theorem dX9_write_79 : decode cX9_write 79 = .ok (.iadd, 1) := by decide +kernel
theorem dX9_write_80 : decode cX9_write 80 = .ok (.iaload, 1) := by decide +kernel
theorem dX9_write_81 : decode cX9_write 81 = .ok (.istore 5, 2) := by decide +kernel
theorem dX9_write_83 : decode cX9_write 83 = .ok (.iload 4, 2) := by decide +kernel
theorem dX9_write_85 : decode cX9_write 85 = .ok (.invokestatic 126, 3) := by decide +kernel
theorem dX9_write_88 : decode cX9_write 88 = .ok (.istore 6, 2) := by decide +kernel
theorem dX9_write_90 : decode cX9_write 90 = .ok (.aload_n 0, 1) := by decide +kernel
theorem dX9_write_91 : decode cX9_write 91 = .ok (.iload_n 1, 1) := by decide +kernel
theorem dX9_write_92 : decode cX9_write 92 = .ok (.iload_n 2, 1) := by decide +kernel
theorem dX9_write_93 : decode cX9_write 93 = .ok (.iload 4, 2) := by decide +kernel
theorem dX9_write_95 : decode cX9_write 95 = .ok (.invokevirtual 166, 3) := by decide +kernel
theorem dX9_write_98 : decode cX9_write 98 = .ok (.iload 4, 2) := by decide +kernel
theorem dX9_write_100 : decode cX9_write 100 = .ok (.iconst 5, 1) := by decide +kernel
theorem dX9_write_101 : decode cX9_write 101 = .ok (.if_icmp .ne 63, 3) := by decide +kernel
theorem dX9_write_104 : decode cX9_write 104 = .ok (.aload_n 0, 1) := by decide +kernel
theorem dX9_write_105 : decode cX9_write 105 = .ok (.iload_n 1, 1) := by decide +kernel
theorem dX9_write_106 : decode cX9_write 106 = .ok (.iload 5, 2) := by decide +kernel
theorem dX9_write_108 : decode cX9_write 108 = .ok (.invokevirtual 162, 3) := by decide +kernel
theorem dX9_write_111 : decode cX9_write 111 = .ok (.ifCond .eq 13, 3) := by decide +kernel
theorem dX9_write_114 : decode cX9_write 114 = .ok (.aload_n 0, 1) := by decide +kernel
theorem dX9_write_115 : decode cX9_write 115 = .ok (.getfield 44, 3) := by decide +kernel
theorem dX9_write_118 : decode cX9_write 118 = .ok (.iload 5, 2) := by decide +kernel
theorem dX9_write_120 : decode cX9_write 120 = .ok (.iaload, 1) := by decide +kernel
theorem dX9_write_121 : decode cX9_write 121 = .ok (.goto 10, 3) := by decide +kernel
theorem dX9_write_124 : decode cX9_write 124 = .ok (.aload_n 0, 1) := by decide +kernel
theorem dX9_write_125 : decode cX9_write 125 = .ok (.getfield 41, 3) := by decide +kernel
theorem dX9_write_128 : decode cX9_write 128 = .ok (.iload 5, 2) := by decide +kernel
theorem dX9_write_130 : decode cX9_write 130 = .ok (.iaload, 1) := by decide +kernel
theorem dX9_write_131 : decode cX9_write 131 = .ok (.istore 7, 2) := by decide +kernel
theorem dX9_write_133 : decode cX9_write 133 = .ok (.aload_n 0, 1) := by decide +kernel
theorem dX9_write_134 : decode cX9_write 134 = .ok (.iload_n 1, 1) := by decide +kernel
theorem dX9_write_135 : decode cX9_write 135 = .ok (.iload_n 2, 1) := by decide +kernel
theorem dX9_write_136 : decode cX9_write 136 = .ok (.iconst 1, 1) := by decide +kernel
theorem dX9_write_137 : decode cX9_write 137 = .ok (.iadd, 1) := by decide +kernel
theorem dX9_write_138 : decode cX9_write 138 = .ok (.iload 7, 2) := by decide +kernel
theorem dX9_write_140 : decode cX9_write 140 = .ok (.sipush 256, 3) := by decide +kernel
theorem dX9_write_143 : decode cX9_write 143 = .ok (.irem, 1) := by decide +kernel
theorem dX9_write_144 : decode cX9_write 144 = .ok (.invokevirtual 166, 3) := by decide +kernel
theorem dX9_write_147 : decode cX9_write 147 = .ok (.aload_n 0, 1) := by decide +kernel
theorem dX9_write_148 : decode cX9_write 148 = .ok (.iload_n 1, 1) := by decide +kernel
theorem dX9_write_149 : decode cX9_write 149 = .ok (.iload_n 2, 1) := by decide +kernel
theorem dX9_write_150 : decode cX9_write 150 = .ok (.iconst 2, 1) := by decide +kernel
theorem dX9_write_151 : decode cX9_write 151 = .ok (.iadd, 1) := by decide +kernel
theorem dX9_write_152 : decode cX9_write 152 = .ok (.iload 7, 2) := by decide +kernel
theorem dX9_write_154 : decode cX9_write 154 = .ok (.sipush 256, 3) := by decide +kernel
theorem dX9_write_157 : decode cX9_write 157 = .ok (.idiv, 1) := by decide +kernel
theorem dX9_write_158 : decode cX9_write 158 = .ok (.invokevirtual 166, 3) := by decide +kernel
theorem dX9_write_161 : decode cX9_write 161 = .ok (.goto 75, 3) := by decide +kernel
theorem dX9_write_164 : decode cX9_write 164 = .ok (.iload 6, 2) := by decide +kernel
theorem dX9_write_166 : decode cX9_write 166 = .ok (.iconst 2, 1) := by decide +kernel
theorem dX9_write_167 : decode cX9_write 167 = .ok (.if_icmp .ne 69, 3) := by decide +kernel
theorem dX9_write_170 : decode cX9_write 170 = .ok (.aload_n 0, 1) := by decide +kernel
theorem dX9_write_171 : decode cX9_write 171 = .ok (.iload_n 1, 1) := by decide +kernel
theorem dX9_write_172 : decode cX9_write 172 = .ok (.iload_n 2, 1) := by decide +kernel
theorem dX9_write_173 : decode cX9_write 173 = .ok (.iconst 1, 1) := by decide +kernel
theorem dX9_write_174 : decode cX9_write 174 = .ok (.iadd, 1) := by decide +kernel
theorem dX9_write_175 : decode cX9_write 175 = .ok (.iload 4, 2) := by decide +kernel
theorem dX9_write_177 : decode cX9_write 177 = .ok (.iconst 3, 1) := by decide +kernel
theorem dX9_write_178 : decode cX9_write 178 = .ok (.if_icmp .eq 9, 3) := by decide +kernel
theorem dX9_write_181 : decode cX9_write 181 = .ok (.iload 4, 2) := by decide +kernel
theorem dX9_write_183 : decode cX9_write 183 = .ok (.iconst 4, 1) := by decide +kernel
theorem dX9_write_184 : decode cX9_write 184 = .ok (.if_icmp .ne 15, 3) := by decide +kernel
theorem dX9_write_187 : decode cX9_write 187 = .ok (.aload_n 0, 1) := by decide +kernel
theorem dX9_write_188 : decode cX9_write 188 = .ok (.getfield 47, 3) := by decide +kernel
theorem dX9_write_191 : decode cX9_write 191 = .ok (.iload_n 1, 1) := by decide +kernel
theorem dX9_write_192 : decode cX9_write 192 = .ok (.iaload, 1) := by decide +kernel
theorem dX9_write_193 : decode cX9_write 193 = .ok (.iload 5, 2) := by decide +kernel
theorem dX9_write_195 : decode cX9_write 195 = .ok (.iadd, 1) := by decide +kernel
theorem dX9_write_196 : decode cX9_write 196 = .ok (.goto 37, 3) := by decide +kernel
theorem dX9_write_199 : decode cX9_write 199 = .ok (.iload 4, 2) := by decide +kernel
theorem dX9_write_201 : decode cX9_write 201 = .ok (.bipush 6, 2) := by decide +kernel
theorem dX9_write_203 : decode cX9_write 203 = .ok (.if_icmp .eq 10, 3) := by decide +kernel
theorem dX9_write_206 : decode cX9_write 206 = .ok (.iload 4, 2) := by decide +kernel
theorem dX9_write_208 : decode cX9_write 208 = .ok (.bipush 7, 2) := by decide +kernel
theorem dX9_write_210 : decode cX9_write 210 = .ok (.if_icmp .ne 21, 3) := by decide +kernel
theorem dX9_write_213 : decode cX9_write 213 = .ok (.aload_n 0, 1) := by decide +kernel
theorem dX9_write_214 : decode cX9_write 214 = .ok (.iload_n 1, 1) := by decide +kernel
theorem dX9_write_215 : decode cX9_write 215 = .ok (.iload 5, 2) := by decide +kernel
theorem dX9_write_217 : decode cX9_write 217 = .ok (.invokevirtual 130, 3) := by decide +kernel
theorem dX9_write_220 : decode cX9_write 220 = .ok (.iload_n 2, 1) := by decide +kernel
theorem dX9_write_221 : decode cX9_write 221 = .ok (.isub, 1) := by decide +kernel
theorem dX9_write_222 : decode cX9_write 222 = .ok (.iconst 2, 1) := by decide +kernel
theorem dX9_write_223 : decode cX9_write 223 = .ok (.isub, 1) := by decide +kernel
theorem dX9_write_224 : decode cX9_write 224 = .ok (.sipush 255, 3) := by decide +kernel
theorem dX9_write_227 : decode cX9_write 227 = .ok (.iand, 1) := by decide +kernel
theorem dX9_write_228 : decode cX9_write 228 = .ok (.goto 5, 3) := by decide +kernel
theorem dX9_write_231 : decode cX9_write 231 = .ok (.iload 5, 2) := by decide +kernel
theorem dX9_write_233 : decode cX9_write 233 = .ok (.invokevirtual 166, 3) := by decide +kernel
theorem dX9_write_236 : decode cX9_write 236 = .ok (.iload_n 2, 1) := by decide +kernel
theorem dX9_write_237 : decode cX9_write 237 = .ok (.iload 6, 2) := by decide +kernel
theorem dX9_write_239 : decode cX9_write 239 = .ok (.iadd, 1) := by decide +kernel
theorem dX9_write_240 : decode cX9_write 240 = .ok (.istore_n 2, 1) := by decide +kernel
theorem dX9_write_241 : decode cX9_write 241 = .ok (.iinc 3 1, 3) := by decide +kernel
theorem dX9_write_244 : decode cX9_write 244 = .ok (.goto (-197), 3) := by decide +kernel
theorem dX9_write_247 : decode cX9_write 247 = .ok (.aload_n 0, 1) := by decide +kernel
theorem dX9_write_248 : decode cX9_write 248 = .ok (.iload_n 1, 1) := by decide +kernel
theorem dX9_write_249 : decode cX9_write 249 = .ok (.iload_n 2, 1) := by decide +kernel
theorem dX9_write_250 : decode cX9_write 250 = .ok (.bipush 8, 2) := by decide +kernel
theorem dX9_write_252 : decode cX9_write 252 = .ok (.invokevirtual 166, 3) := by decide +kernel
theorem dX9_write_255 : decode cX9_write 255 = .ok (.return_, 1) := by decide +kernel
theorem dX9_writeThunk_0 : decode cX9_writeThunk 0 = .ok (.aload_n 0, 1) := by decide +kernel
theorem dX9_writeThunk_1 : decode cX9_writeThunk 1 = .ok (.getfield 44, 3) := by decide +kernel
theorem dX9_writeThunk_4 : decode cX9_writeThunk 4 = .ok (.iload_n 1, 1) := by decide +kernel
theorem dX9_writeThunk_5 : decode cX9_writeThunk 5 = .ok (.iaload, 1) := by decide +kernel
theorem dX9_writeThunk_6 : decode cX9_writeThunk 6 = .ok (.istore_n 2, 1) := by decide +kernel
theorem dX9_writeThunk_7 : decode cX9_writeThunk 7 = .ok (.aload_n 0, 1) := by decide +kernel
theorem dX9_writeThunk_8 : decode cX9_writeThunk 8 = .ok (.getfield 53, 3) := by decide +kernel
theorem dX9_writeThunk_11 : decode cX9_writeThunk 11 = .ok (.iload_n 2, 1) := by decide +kernel
theorem dX9_writeThunk_12 : decode cX9_writeThunk 12 = .ok (.bipush 9, 2) := by decide +kernel
theorem dX9_writeThunk_14 : decode cX9_writeThunk 14 = .ok (.iastore, 1) := by decide +kernel
theorem dX9_writeThunk_15 : decode cX9_writeThunk 15 = .ok (.aload_n 0, 1) := by decide +kernel
theorem dX9_writeThunk_16 : decode cX9_writeThunk 16 = .ok (.getfield 53, 3) := by decide +kernel
theorem dX9_writeThunk_19 : decode cX9_writeThunk 19 = .ok (.iload_n 2, 1) := by decide +kernel
theorem dX9_writeThunk_20 : decode cX9_writeThunk 20 = .ok (.iconst 1, 1) := by decide +kernel
theorem dX9_writeThunk_21 : decode cX9_writeThunk 21 = .ok (.iadd, 1) := by decide +kernel
theorem dX9_writeThunk_22 : decode cX9_writeThunk 22 = .ok (.bipush 10, 2) := by decide +kernel
theorem dX9_writeThunk_24 : decode cX9_writeThunk 24 = .ok (.iastore, 1) := by decide +kernel
theorem dX9_writeThunk_25 : decode cX9_writeThunk 25 = .ok (.aload_n 0, 1) := by decide +kernel
theorem dX9_writeThunk_26 : decode cX9_writeThunk 26 = .ok (.getfield 53, 3) := by decide +kernel
theorem dX9_writeThunk_29 : decode cX9_writeThunk 29 = .ok (.iload_n 2, 1) := by decide +kernel
theorem dX9_writeThunk_30 : decode cX9_writeThunk 30 = .ok (.iconst 2, 1) := by decide +kernel
theorem dX9_writeThunk_31 : decode cX9_writeThunk 31 = .ok (.iadd, 1) := by decide +kernel
theorem dX9_writeThunk_32 : decode cX9_writeThunk 32 = .ok (.aload_n 0, 1) := by decide +kernel
theorem dX9_writeThunk_33 : decode cX9_writeThunk 33 = .ok (.getfield 35, 3) := by decide +kernel
theorem dX9_writeThunk_36 : decode cX9_writeThunk 36 = .ok (.aload_n 0, 1) := by decide +kernel
theorem dX9_writeThunk_37 : decode cX9_writeThunk 37 = .ok (.getfield 17, 3) := by decide +kernel
theorem dX9_writeThunk_40 : decode cX9_writeThunk 40 = .ok (.iload_n 1, 1) := by decide +kernel
theorem dX9_writeThunk_41 : decode cX9_writeThunk 41 = .ok (.iaload, 1) := by decide +kernel
theorem dX9_writeThunk_42 : decode cX9_writeThunk 42 = .ok (.iaload, 1) := by decide +kernel
theorem dX9_writeThunk_43 : decode cX9_writeThunk 43 = .ok (.iastore, 1) := by decide +kernel
theorem dX9_writeThunk_44 : decode cX9_writeThunk 44 = .ok (.aload_n 0, 1) := by decide +kernel
theorem dX9_writeThunk_45 : decode cX9_writeThunk 45 = .ok (.getfield 53, 3) := by decide +kernel
theorem dX9_writeThunk_48 : decode cX9_writeThunk 48 = .ok (.iload_n 2, 1) := by decide +kernel
theorem dX9_writeThunk_49 : decode cX9_writeThunk 49 = .ok (.iconst 3, 1) := by decide +kernel
theorem dX9_writeThunk_50 : decode cX9_writeThunk 50 = .ok (.iadd, 1) := by decide +kernel
theorem dX9_writeThunk_51 : decode cX9_writeThunk 51 = .ok (.iconst 5, 1) := by decide +kernel
theorem dX9_writeThunk_52 : decode cX9_writeThunk 52 = .ok (.iastore, 1) := by decide +kernel
theorem dX9_writeThunk_53 : decode cX9_writeThunk 53 = .ok (.aload_n 0, 1) := by decide +kernel
theorem dX9_writeThunk_54 : decode cX9_writeThunk 54 = .ok (.getfield 53, 3) := by decide +kernel
theorem dX9_writeThunk_57 : decode cX9_writeThunk 57 = .ok (.iload_n 2, 1) := by decide +kernel
theorem dX9_writeThunk_58 : decode cX9_writeThunk 58 = .ok (.iconst 4, 1) := by decide +kernel
theorem dX9_writeThunk_59 : decode cX9_writeThunk 59 = .ok (.iadd, 1) := by decide +kernel
theorem dX9_writeThunk_60 : decode cX9_writeThunk 60 = .ok (.aload_n 0, 1) := by decide +kernel
theorem dX9_writeThunk_61 : decode cX9_writeThunk 61 = .ok (.getfield 41, 3) := by decide +kernel
theorem dX9_writeThunk_64 : decode cX9_writeThunk 64 = .ok (.iload_n 1, 1) := by decide +kernel
theorem dX9_writeThunk_65 : decode cX9_writeThunk 65 = .ok (.iaload, 1) := by decide +kernel
theorem dX9_writeThunk_66 : decode cX9_writeThunk 66 = .ok (.sipush 256, 3) := by decide +kernel
theorem dX9_writeThunk_69 : decode cX9_writeThunk 69 = .ok (.irem, 1) := by decide +kernel
theorem dX9_writeThunk_70 : decode cX9_writeThunk 70 = .ok (.iastore, 1) := by decide +kernel
theorem dX9_writeThunk_71 : decode cX9_writeThunk 71 = .ok (.aload_n 0, 1) := by decide +kernel
theorem dX9_writeThunk_72 : decode cX9_writeThunk 72 = .ok (.getfield 53, 3) := by decide +kernel
theorem dX9_writeThunk_75 : decode cX9_writeThunk 75 = .ok (.iload_n 2, 1) := by decide +kernel
theorem dX9_writeThunk_76 : decode cX9_writeThunk 76 = .ok (.iconst 5, 1) := by decide +kernel
theorem dX9_writeThunk_77 : decode cX9_writeThunk 77 = .ok (.iadd, 1) := by decide +kernel
theorem dX9_writeThunk_78 : decode cX9_writeThunk 78 = .ok (.aload_n 0, 1) := by decide +kernel
theorem dX9_writeThunk_79 : decode cX9_writeThunk 79 = .ok (.getfield 41, 3) := by decide +kernel
theorem dX9_writeThunk_82 : decode cX9_writeThunk 82 = .ok (.iload_n 1, 1) := by decide +kernel
theorem dX9_writeThunk_83 : decode cX9_writeThunk 83 = .ok (.iaload, 1) := by decide +kernel
theorem dX9_writeThunk_84 : decode cX9_writeThunk 84 = .ok (.sipush 256, 3) := by decide +kernel
theorem dX9_writeThunk_87 : decode cX9_writeThunk 87 = .ok (.idiv, 1) := by decide +kernel
theorem dX9_writeThunk_88 : decode cX9_writeThunk 88 = .ok (.iastore, 1) := by decide +kernel
theorem dX9_writeThunk_89 : decode cX9_writeThunk 89 = .ok (.aload_n 0, 1) := by decide +kernel
theorem dX9_writeThunk_90 : decode cX9_writeThunk 90 = .ok (.getfield 53, 3) := by decide +kernel
theorem dX9_writeThunk_93 : decode cX9_writeThunk 93 = .ok (.iload_n 2, 1) := by decide +kernel
theorem dX9_writeThunk_94 : decode cX9_writeThunk 94 = .ok (.bipush 6, 2) := by decide +kernel
theorem dX9_writeThunk_96 : decode cX9_writeThunk 96 = .ok (.iadd, 1) := by decide +kernel
theorem dX9_writeThunk_97 : decode cX9_writeThunk 97 = .ok (.bipush 11, 2) := by decide +kernel
theorem dX9_writeThunk_99 : decode cX9_writeThunk 99 = .ok (.iastore, 1) := by decide +kernel
theorem dX9_writeThunk_100 : decode cX9_writeThunk 100 = .ok (.aload_n 0, 1) := by decide +kernel
theorem dX9_writeThunk_101 : decode cX9_writeThunk 101 = .ok (.getfield 53, 3) := by decide +kernel
theorem dX9_writeThunk_104 : decode cX9_writeThunk 104 = .ok (.iload_n 2, 1) := by decide +kernel
theorem dX9_writeThunk_105 : decode cX9_writeThunk 105 = .ok (.bipush 7, 2) := by decide +kernel
theorem dX9_writeThunk_107 : decode cX9_writeThunk 107 = .ok (.iadd, 1) := by decide +kernel
theorem dX9_writeThunk_108 : decode cX9_writeThunk 108 = .ok (.bipush 8, 2) := by decide +kernel
theorem dX9_writeThunk_110 : decode cX9_writeThunk 110 = .ok (.iastore, 1) := by decide +kernel
theorem dX9_writeThunk_111 : decode cX9_writeThunk 111 = .ok (.return_, 1) := by decide +kernel
theorem dX9_link_0 : decode cX9_link 0 = .ok (.aload_n 0, 1) := by decide +kernel
theorem dX9_link_1 : decode cX9_link 1 = .ok (.iconst 0, 1) := by decide +kernel
theorem dX9_link_2 : decode cX9_link 2 = .ok (.putfield 1, 3) := by decide +kernel
theorem dX9_link_5 : decode cX9_link 5 = .ok (.aload_n 0, 1) := by decide +kernel
theorem dX9_link_6 : decode cX9_link 6 = .ok (.iconst 0, 1) := by decide +kernel
theorem dX9_link_7 : decode cX9_link 7 = .ok (.putfield 100, 3) := by decide +kernel
theorem dX9_link_10 : decode cX9_link 10 = .ok (.aload_n 0, 1) := by decide +kernel
theorem dX9_link_11 : decode cX9_link 11 = .ok (.invokevirtual 170, 3) := by decide +kernel
theorem dX9_link_14 : decode cX9_link 14 = .ok (.ifCond .eq 24, 3) := by decide +kernel
theorem dX9_link_17 : decode cX9_link 17 = .ok (.aload_n 0, 1) := by decide +kernel
theorem dX9_link_18 : decode cX9_link 18 = .ok (.invokevirtual 174, 3) := by decide +kernel
theorem dX9_link_21 : decode cX9_link 21 = .ok (.ifCond .eq 17, 3) := by decide +kernel
theorem dX9_link_24 : decode cX9_link 24 = .ok (.aload_n 0, 1) := by decide +kernel
theorem dX9_link_25 : decode cX9_link 25 = .ok (.invokevirtual 177, 3) := by decide +kernel
theorem dX9_link_28 : decode cX9_link 28 = .ok (.ifCond .eq 10, 3) := by decide +kernel
theorem dX9_link_31 : decode cX9_link 31 = .ok (.aload_n 0, 1) := by decide +kernel
theorem dX9_link_32 : decode cX9_link 32 = .ok (.invokevirtual 180, 3) := by decide +kernel
theorem dX9_link_35 : decode cX9_link 35 = .ok (.ifCond .ne 5, 3) := by decide +kernel
theorem dX9_link_38 : decode cX9_link 38 = .ok (.iconst 0, 1) := by decide +kernel
theorem dX9_link_39 : decode cX9_link 39 = .ok (.ireturn, 1) := by decide +kernel
theorem dX9_link_40 : decode cX9_link 40 = .ok (.aload_n 0, 1) := by decide +kernel
theorem dX9_link_41 : decode cX9_link 41 = .ok (.iconst 0, 1) := by decide +kernel
theorem dX9_link_42 : decode cX9_link 42 = .ok (.iconst (-1), 1) := by decide +kernel
theorem dX9_link_43 : decode cX9_link 43 = .ok (.iconst (-1), 1) := by decide +kernel
theorem dX9_link_44 : decode cX9_link 44 = .ok (.invokevirtual 147, 3) := by decide +kernel
theorem dX9_link_47 : decode cX9_link 47 = .ok (.istore_n 1, 1) := by decide +kernel
theorem dX9_link_48 : decode cX9_link 48 = .ok (.iconst 0, 1) := by decide +kernel
theorem dX9_link_49 : decode cX9_link 49 = .ok (.istore_n 2, 1) := by decide +kernel
theorem dX9_link_50 : decode cX9_link 50 = .ok (.iload_n 2, 1) := by decide +kernel
theorem dX9_link_51 : decode cX9_link 51 = .ok (.aload_n 0, 1) := by decide +kernel
theorem dX9_link_52 : decode cX9_link 52 = .ok (.getfield 90, 3) := by decide +kernel
theorem dX9_link_55 : decode cX9_link 55 = .ok (.if_icmp .ge 29, 3) := by decide +kernel
theorem dX9_link_58 : decode cX9_link 58 = .ok (.aload_n 0, 1) := by decide +kernel
theorem dX9_link_59 : decode cX9_link 59 = .ok (.iload_n 2, 1) := by decide +kernel
theorem dX9_link_60 : decode cX9_link 60 = .ok (.invokevirtual 183, 3) := by decide +kernel
theorem dX9_link_63 : decode cX9_link 63 = .ok (.aload_n 0, 1) := by decide +kernel
theorem dX9_link_64 : decode cX9_link 64 = .ok (.getfield 44, 3) := by decide +kernel
theorem dX9_link_67 : decode cX9_link 67 = .ok (.iload_n 2, 1) := by decide +kernel
theorem dX9_link_68 : decode cX9_link 68 = .ok (.iaload, 1) := by decide +kernel
theorem dX9_link_69 : decode cX9_link 69 = .ok (.iconst (-1), 1) := by decide +kernel
theorem dX9_link_70 : decode cX9_link 70 = .ok (.if_icmp .eq 8, 3) := by decide +kernel
theorem dX9_link_73 : decode cX9_link 73 = .ok (.aload_n 0, 1) := by decide +kernel
theorem dX9_link_74 : decode cX9_link 74 = .ok (.iload_n 2, 1) := by decide +kernel
theorem dX9_link_75 : decode cX9_link 75 = .ok (.invokevirtual 186, 3) := by decide +kernel
theorem dX9_link_78 : decode cX9_link 78 = .ok (.iinc 2 1, 3) := by decide +kernel
theorem dX9_link_81 : decode cX9_link 81 = .ok (.goto (-31), 3) := by decide +kernel
theorem dX9_link_84 : decode cX9_link 84 = .ok (.aload_n 0, 1) := by decide +kernel
theorem dX9_link_85 : decode cX9_link 85 = .ok (.iconst 1, 1) := by decide +kernel
theorem dX9_link_86 : decode cX9_link 86 = .ok (.putfield 100, 3) := by decide +kernel
theorem dX9_link_89 : decode cX9_link 89 = .ok (.iconst 1, 1) := by decide +kernel
theorem dX9_link_90 : decode cX9_link 90 = .ok (.ireturn, 1) := by decide +kernel
