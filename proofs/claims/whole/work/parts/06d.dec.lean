theorem dX1_beginRoutine_0 : decode cX1_beginRoutine 0 = .ok (.aload_n 0, 1) := by decide +kernel
theorem dX1_beginRoutine_1 : decode cX1_beginRoutine 1 = .ok (.getfield 28, 3) := by decide +kernel
theorem dX1_beginRoutine_4 : decode cX1_beginRoutine 4 = .ok (.bipush 60, 2) := by decide +kernel
theorem dX1_beginRoutine_6 : decode cX1_beginRoutine 6 = .ok (.if_icmp .lt 5, 3) := by decide +kernel
theorem dX1_beginRoutine_9 : decode cX1_beginRoutine 9 = .ok (.iconst 0, 1) := by decide +kernel
theorem dX1_beginRoutine_10 : decode cX1_beginRoutine 10 = .ok (.ireturn, 1) := by decide +kernel
theorem dX1_beginRoutine_11 : decode cX1_beginRoutine 11 = .ok (.aload_n 0, 1) := by decide +kernel
theorem dX1_beginRoutine_12 : decode cX1_beginRoutine 12 = .ok (.dup, 1) := by decide +kernel
theorem dX1_beginRoutine_13 : decode cX1_beginRoutine 13 = .ok (.getfield 28, 3) := by decide +kernel
theorem dX1_beginRoutine_16 : decode cX1_beginRoutine 16 = .ok (.iconst 1, 1) := by decide +kernel
theorem dX1_beginRoutine_17 : decode cX1_beginRoutine 17 = .ok (.iadd, 1) := by decide +kernel
theorem dX1_beginRoutine_18 : decode cX1_beginRoutine 18 = .ok (.putfield 28, 3) := by decide +kernel
theorem dX1_beginRoutine_21 : decode cX1_beginRoutine 21 = .ok (.aload_n 0, 1) := by decide +kernel
theorem dX1_beginRoutine_22 : decode cX1_beginRoutine 22 = .ok (.getfield 18, 3) := by decide +kernel
theorem dX1_beginRoutine_25 : decode cX1_beginRoutine 25 = .ok (.aload_n 0, 1) := by decide +kernel
theorem dX1_beginRoutine_26 : decode cX1_beginRoutine 26 = .ok (.getfield 28, 3) := by decide +kernel
theorem dX1_beginRoutine_29 : decode cX1_beginRoutine 29 = .ok (.iload_n 1, 1) := by decide +kernel
theorem dX1_beginRoutine_30 : decode cX1_beginRoutine 30 = .ok (.iastore, 1) := by decide +kernel
theorem dX1_beginRoutine_31 : decode cX1_beginRoutine 31 = .ok (.aload_n 0, 1) := by decide +kernel
theorem dX1_beginRoutine_32 : decode cX1_beginRoutine 32 = .ok (.getfield 22, 3) := by decide +kernel
theorem dX1_beginRoutine_35 : decode cX1_beginRoutine 35 = .ok (.aload_n 0, 1) := by decide +kernel
theorem dX1_beginRoutine_36 : decode cX1_beginRoutine 36 = .ok (.getfield 28, 3) := by decide +kernel
theorem dX1_beginRoutine_39 : decode cX1_beginRoutine 39 = .ok (.iconst 0, 1) := by decide +kernel
theorem dX1_beginRoutine_40 : decode cX1_beginRoutine 40 = .ok (.iastore, 1) := by decide +kernel
theorem dX1_beginRoutine_41 : decode cX1_beginRoutine 41 = .ok (.aload_n 0, 1) := by decide +kernel
theorem dX1_beginRoutine_42 : decode cX1_beginRoutine 42 = .ok (.getfield 25, 3) := by decide +kernel
theorem dX1_beginRoutine_45 : decode cX1_beginRoutine 45 = .ok (.aload_n 0, 1) := by decide +kernel
theorem dX1_beginRoutine_46 : decode cX1_beginRoutine 46 = .ok (.getfield 28, 3) := by decide +kernel
theorem dX1_beginRoutine_49 : decode cX1_beginRoutine 49 = .ok (.bipush 9, 2) := by decide +kernel
theorem dX1_beginRoutine_51 : decode cX1_beginRoutine 51 = .ok (.imul, 1) := by decide +kernel
theorem dX1_beginRoutine_52 : decode cX1_beginRoutine 52 = .ok (.aload_n 0, 1) := by decide +kernel
theorem dX1_beginRoutine_53 : decode cX1_beginRoutine 53 = .ok (.getfield 28, 3) := by decide +kernel
theorem dX1_beginRoutine_56 : decode cX1_beginRoutine 56 = .ok (.iconst 1, 1) := by decide +kernel
theorem dX1_beginRoutine_57 : decode cX1_beginRoutine 57 = .ok (.iadd, 1) := by decide +kernel
theorem dX1_beginRoutine_58 : decode cX1_beginRoutine 58 = .ok (.bipush 9, 2) := by decide +kernel
theorem dX1_beginRoutine_60 : decode cX1_beginRoutine 60 = .ok (.imul, 1) := by decide +kernel
theorem dX1_beginRoutine_61 : decode cX1_beginRoutine 61 = .ok (.iconst 0, 1) := by decide +kernel
theorem dX1_beginRoutine_62 : decode cX1_beginRoutine 62 = .ok (.invokestatic 75, 3) := by decide +kernel
theorem dX1_beginRoutine_65 : decode cX1_beginRoutine 65 = .ok (.aload_n 0, 1) := by decide +kernel
theorem dX1_beginRoutine_66 : decode cX1_beginRoutine 66 = .ok (.getfield 12, 3) := by decide +kernel
theorem dX1_beginRoutine_69 : decode cX1_beginRoutine 69 = .ok (.aload_n 0, 1) := by decide +kernel
theorem dX1_beginRoutine_70 : decode cX1_beginRoutine 70 = .ok (.getfield 28, 3) := by decide +kernel
theorem dX1_beginRoutine_73 : decode cX1_beginRoutine 73 = .ok (.invokevirtual 81, 3) := by decide +kernel
theorem dX1_beginRoutine_76 : decode cX1_beginRoutine 76 = .ok (.iconst 2, 1) := by decide +kernel
theorem dX1_beginRoutine_77 : decode cX1_beginRoutine 77 = .ok (.ireturn, 1) := by decide +kernel
theorem dX1_endRoutine_0 : decode cX1_endRoutine 0 = .ok (.aload_n 0, 1) := by decide +kernel
theorem dX1_endRoutine_1 : decode cX1_endRoutine 1 = .ok (.getfield 28, 3) := by decide +kernel
theorem dX1_endRoutine_4 : decode cX1_endRoutine 4 = .ok (.ifCond .ne 5, 3) := by decide +kernel
theorem dX1_endRoutine_7 : decode cX1_endRoutine 7 = .ok (.iconst 1, 1) := by decide +kernel
theorem dX1_endRoutine_8 : decode cX1_endRoutine 8 = .ok (.ireturn, 1) := by decide +kernel
theorem dX1_endRoutine_9 : decode cX1_endRoutine 9 = .ok (.aload_n 0, 1) := by decide +kernel
theorem dX1_endRoutine_10 : decode cX1_endRoutine 10 = .ok (.dup, 1) := by decide +kernel
theorem dX1_endRoutine_11 : decode cX1_endRoutine 11 = .ok (.getfield 28, 3) := by decide +kernel
theorem dX1_endRoutine_14 : decode cX1_endRoutine 14 = .ok (.iconst 1, 1) := by decide +kernel
theorem dX1_endRoutine_15 : decode cX1_endRoutine 15 = .ok (.isub, 1) := by decide +kernel
theorem dX1_endRoutine_16 : decode cX1_endRoutine 16 = .ok (.putfield 28, 3) := by decide +kernel
theorem dX1_endRoutine_19 : decode cX1_endRoutine 19 = .ok (.iconst 2, 1) := by decide +kernel
theorem dX1_endRoutine_20 : decode cX1_endRoutine 20 = .ok (.ireturn, 1) := by decide +kernel
theorem dX1_jumpTo_0 : decode cX1_jumpTo 0 = .ok (.iload_n 1, 1) := by decide +kernel
theorem dX1_jumpTo_1 : decode cX1_jumpTo 1 = .ok (.aload_n 0, 1) := by decide +kernel
theorem dX1_jumpTo_2 : decode cX1_jumpTo 2 = .ok (.getfield 32, 3) := by decide +kernel
theorem dX1_jumpTo_5 : decode cX1_jumpTo 5 = .ok (.getfield 84, 3) := by decide +kernel
theorem dX1_jumpTo_8 : decode cX1_jumpTo 8 = .ok (.aload_n 0, 1) := by decide +kernel
theorem dX1_jumpTo_9 : decode cX1_jumpTo 9 = .ok (.getfield 18, 3) := by decide +kernel
theorem dX1_jumpTo_12 : decode cX1_jumpTo 12 = .ok (.aload_n 0, 1) := by decide +kernel
theorem dX1_jumpTo_13 : decode cX1_jumpTo 13 = .ok (.getfield 28, 3) := by decide +kernel
theorem dX1_jumpTo_16 : decode cX1_jumpTo 16 = .ok (.iaload, 1) := by decide +kernel
theorem dX1_jumpTo_17 : decode cX1_jumpTo 17 = .ok (.iaload, 1) := by decide +kernel
theorem dX1_jumpTo_18 : decode cX1_jumpTo 18 = .ok (.if_icmp .le 5, 3) := by decide +kernel
theorem dX1_jumpTo_21 : decode cX1_jumpTo 21 = .ok (.iconst 0, 1) := by decide +kernel
theorem dX1_jumpTo_22 : decode cX1_jumpTo 22 = .ok (.ireturn, 1) := by decide +kernel
theorem dX1_jumpTo_23 : decode cX1_jumpTo 23 = .ok (.aload_n 0, 1) := by decide +kernel
theorem dX1_jumpTo_24 : decode cX1_jumpTo 24 = .ok (.getfield 22, 3) := by decide +kernel
theorem dX1_jumpTo_27 : decode cX1_jumpTo 27 = .ok (.aload_n 0, 1) := by decide +kernel
theorem dX1_jumpTo_28 : decode cX1_jumpTo 28 = .ok (.getfield 28, 3) := by decide +kernel
theorem dX1_jumpTo_31 : decode cX1_jumpTo 31 = .ok (.iload_n 1, 1) := by decide +kernel
theorem dX1_jumpTo_32 : decode cX1_jumpTo 32 = .ok (.iastore, 1) := by decide +kernel
theorem dX1_jumpTo_33 : decode cX1_jumpTo 33 = .ok (.iconst 2, 1) := by decide +kernel
theorem dX1_jumpTo_34 : decode cX1_jumpTo 34 = .ok (.ireturn, 1) := by decide +kernel
theorem dX1_doOp_0 : decode cX1_doOp 0 = .ok (.aload_n 0, 1) := by decide +kernel
theorem dX1_doOp_1 : decode cX1_doOp 1 = .ok (.getfield 18, 3) := by decide +kernel
theorem dX1_doOp_4 : decode cX1_doOp 4 = .ok (.aload_n 0, 1) := by decide +kernel
theorem dX1_doOp_5 : decode cX1_doOp 5 = .ok (.getfield 28, 3) := by decide +kernel
theorem dX1_doOp_8 : decode cX1_doOp 8 = .ok (.iaload, 1) := by decide +kernel
theorem dX1_doOp_9 : decode cX1_doOp 9 = .ok (.istore_n 1, 1) := by decide +kernel
theorem dX1_doOp_10 : decode cX1_doOp 10 = .ok (.aload_n 0, 1) := by decide +kernel
theorem dX1_doOp_11 : decode cX1_doOp 11 = .ok (.getfield 22, 3) := by decide +kernel
theorem dX1_doOp_14 : decode cX1_doOp 14 = .ok (.aload_n 0, 1) := by decide +kernel
theorem dX1_doOp_15 : decode cX1_doOp 15 = .ok (.getfield 28, 3) := by decide +kernel
theorem dX1_doOp_18 : decode cX1_doOp 18 = .ok (.iaload, 1) := by decide +kernel
theorem dX1_doOp_19 : decode cX1_doOp 19 = .ok (.istore_n 2, 1) := by decide +kernel
theorem dX1_doOp_20 : decode cX1_doOp 20 = .ok (.aload_n 0, 1) := by decide +kernel
theorem dX1_doOp_21 : decode cX1_doOp 21 = .ok (.getfield 32, 3) := by decide +kernel
theorem dX1_doOp_24 : decode cX1_doOp 24 = .ok (.iload_n 1, 1) := by decide +kernel
theorem dX1_doOp_25 : decode cX1_doOp 25 = .ok (.iload_n 2, 1) := by decide +kernel
theorem dX1_doOp_26 : decode cX1_doOp 26 = .ok (.invokevirtual 51, 3) := by decide +kernel
theorem dX1_doOp_29 : decode cX1_doOp 29 = .ok (.istore_n 3, 1) := by decide +kernel
theorem dX1_doOp_30 : decode cX1_doOp 30 = .ok (.aload_n 0, 1) := by decide +kernel
theorem dX1_doOp_31 : decode cX1_doOp 31 = .ok (.getfield 22, 3) := by decide +kernel
theorem dX1_doOp_34 : decode cX1_doOp 34 = .ok (.aload_n 0, 1) := by decide +kernel
theorem dX1_doOp_35 : decode cX1_doOp 35 = .ok (.getfield 28, 3) := by decide +kernel
theorem dX1_doOp_38 : decode cX1_doOp 38 = .ok (.iload_n 2, 1) := by decide +kernel
theorem dX1_doOp_39 : decode cX1_doOp 39 = .ok (.iconst 1, 1) := by decide +kernel
theorem dX1_doOp_40 : decode cX1_doOp 40 = .ok (.iadd, 1) := by decide +kernel
theorem dX1_doOp_41 : decode cX1_doOp 41 = .ok (.iastore, 1) := by decide +kernel
theorem dX1_doOp_42 : decode cX1_doOp 42 = .ok (.aload_n 0, 1) := by decide +kernel
theorem dX1_doOp_43 : decode cX1_doOp 43 = .ok (.getfield 32, 3) := by decide +kernel
theorem dX1_doOp_46 : decode cX1_doOp 46 = .ok (.iload_n 1, 1) := by decide +kernel
theorem dX1_doOp_47 : decode cX1_doOp 47 = .ok (.iload_n 2, 1) := by decide +kernel
theorem dX1_doOp_48 : decode cX1_doOp 48 = .ok (.invokevirtual 57, 3) := by decide +kernel
theorem dX1_doOp_51 : decode cX1_doOp 51 = .ok (.tableswitch 152 0 7 #[45, 55, 65, 74, 97, 120, 126, 146], 45) := by decide +kernel
theorem dX1_doOp_96 : decode cX1_doOp 96 = .ok (.aload_n 0, 1) := by decide +kernel
theorem dX1_doOp_97 : decode cX1_doOp 97 = .ok (.getfield 12, 3) := by decide +kernel
theorem dX1_doOp_100 : decode cX1_doOp 100 = .ok (.iload_n 3, 1) := by decide +kernel
theorem dX1_doOp_101 : decode cX1_doOp 101 = .ok (.putfield 60, 3) := by decide +kernel
theorem dX1_doOp_104 : decode cX1_doOp 104 = .ok (.iconst 2, 1) := by decide +kernel
theorem dX1_doOp_105 : decode cX1_doOp 105 = .ok (.ireturn, 1) := by decide +kernel
theorem dX1_doOp_106 : decode cX1_doOp 106 = .ok (.aload_n 0, 1) := by decide +kernel
theorem dX1_doOp_107 : decode cX1_doOp 107 = .ok (.getfield 12, 3) := by decide +kernel
theorem dX1_doOp_110 : decode cX1_doOp 110 = .ok (.iload_n 3, 1) := by decide +kernel
theorem dX1_doOp_111 : decode cX1_doOp 111 = .ok (.invokevirtual 63, 3) := by decide +kernel
theorem dX1_doOp_114 : decode cX1_doOp 114 = .ok (.iconst 2, 1) := by decide +kernel
theorem dX1_doOp_115 : decode cX1_doOp 115 = .ok (.ireturn, 1) := by decide +kernel
theorem dX1_doOp_116 : decode cX1_doOp 116 = .ok (.aload_n 0, 1) := by decide +kernel
theorem dX1_doOp_117 : decode cX1_doOp 117 = .ok (.getfield 12, 3) := by decide +kernel
theorem dX1_doOp_120 : decode cX1_doOp 120 = .ok (.invokevirtual 66, 3) := by decide +kernel
theorem dX1_doOp_123 : decode cX1_doOp 123 = .ok (.iconst 2, 1) := by decide +kernel
theorem dX1_doOp_124 : decode cX1_doOp 124 = .ok (.ireturn, 1) := by decide +kernel
theorem dX1_doOp_125 : decode cX1_doOp 125 = .ok (.aload_n 0, 1) := by decide +kernel
theorem dX1_doOp_126 : decode cX1_doOp 126 = .ok (.getfield 12, 3) := by decide +kernel
theorem dX1_doOp_129 : decode cX1_doOp 129 = .ok (.aload_n 0, 1) := by decide +kernel
theorem dX1_doOp_130 : decode cX1_doOp 130 = .ok (.getfield 25, 3) := by decide +kernel
theorem dX1_doOp_133 : decode cX1_doOp 133 = .ok (.aload_n 0, 1) := by decide +kernel
theorem dX1_doOp_134 : decode cX1_doOp 134 = .ok (.getfield 28, 3) := by decide +kernel
theorem dX1_doOp_137 : decode cX1_doOp 137 = .ok (.bipush 9, 2) := by decide +kernel
theorem dX1_doOp_139 : decode cX1_doOp 139 = .ok (.imul, 1) := by decide +kernel
theorem dX1_doOp_140 : decode cX1_doOp 140 = .ok (.iload_n 3, 1) := by decide +kernel
theorem dX1_doOp_141 : decode cX1_doOp 141 = .ok (.iadd, 1) := by decide +kernel
theorem dX1_doOp_142 : decode cX1_doOp 142 = .ok (.iaload, 1) := by decide +kernel
theorem dX1_doOp_143 : decode cX1_doOp 143 = .ok (.putfield 60, 3) := by decide +kernel
theorem dX1_doOp_146 : decode cX1_doOp 146 = .ok (.iconst 2, 1) := by decide +kernel
theorem dX1_doOp_147 : decode cX1_doOp 147 = .ok (.ireturn, 1) := by decide +kernel
theorem dX1_doOp_148 : decode cX1_doOp 148 = .ok (.aload_n 0, 1) := by decide +kernel
theorem dX1_doOp_149 : decode cX1_doOp 149 = .ok (.getfield 25, 3) := by decide +kernel
theorem dX1_doOp_152 : decode cX1_doOp 152 = .ok (.aload_n 0, 1) := by decide +kernel
theorem dX1_doOp_153 : decode cX1_doOp 153 = .ok (.getfield 28, 3) := by decide +kernel
theorem dX1_doOp_156 : decode cX1_doOp 156 = .ok (.bipush 9, 2) := by decide +kernel
theorem dX1_doOp_158 : decode cX1_doOp 158 = .ok (.imul, 1) := by decide +kernel
theorem dX1_doOp_159 : decode cX1_doOp 159 = .ok (.iload_n 3, 1) := by decide +kernel
theorem dX1_doOp_160 : decode cX1_doOp 160 = .ok (.iadd, 1) := by decide +kernel
theorem dX1_doOp_161 : decode cX1_doOp 161 = .ok (.aload_n 0, 1) := by decide +kernel
theorem dX1_doOp_162 : decode cX1_doOp 162 = .ok (.getfield 12, 3) := by decide +kernel
theorem dX1_doOp_165 : decode cX1_doOp 165 = .ok (.getfield 60, 3) := by decide +kernel
theorem dX1_doOp_168 : decode cX1_doOp 168 = .ok (.iastore, 1) := by decide +kernel
theorem dX1_doOp_169 : decode cX1_doOp 169 = .ok (.iconst 2, 1) := by decide +kernel
theorem dX1_doOp_170 : decode cX1_doOp 170 = .ok (.ireturn, 1) := by decide +kernel
theorem dX1_doOp_171 : decode cX1_doOp 171 = .ok (.aload_n 0, 1) := by decide +kernel
theorem dX1_doOp_172 : decode cX1_doOp 172 = .ok (.iload_n 3, 1) := by decide +kernel
theorem dX1_doOp_173 : decode cX1_doOp 173 = .ok (.invokevirtual 40, 3) := by decide +kernel
theorem dX1_doOp_176 : decode cX1_doOp 176 = .ok (.ireturn, 1) := by decide +kernel
theorem dX1_doOp_177 : decode cX1_doOp 177 = .ok (.aload_n 0, 1) := by decide +kernel
theorem dX1_doOp_178 : decode cX1_doOp 178 = .ok (.getfield 12, 3) := by decide +kernel
theorem dX1_doOp_181 : decode cX1_doOp 181 = .ok (.getfield 60, 3) := by decide +kernel
theorem dX1_doOp_184 : decode cX1_doOp 184 = .ok (.ifCond .ne 11, 3) := by decide +kernel
theorem dX1_doOp_187 : decode cX1_doOp 187 = .ok (.aload_n 0, 1) := by decide +kernel
theorem dX1_doOp_188 : decode cX1_doOp 188 = .ok (.iload_n 3, 1) := by decide +kernel
theorem dX1_doOp_189 : decode cX1_doOp 189 = .ok (.invokevirtual 69, 3) := by decide +kernel
theorem dX1_doOp_192 : decode cX1_doOp 192 = .ok (.goto 4, 3) := by decide +kernel
theorem dX1_doOp_195 : decode cX1_doOp 195 = .ok (.iconst 2, 1) := by decide +kernel
theorem dX1_doOp_196 : decode cX1_doOp 196 = .ok (.ireturn, 1) := by decide +kernel
theorem dX1_doOp_197 : decode cX1_doOp 197 = .ok (.aload_n 0, 1) := by decide +kernel
theorem dX1_doOp_198 : decode cX1_doOp 198 = .ok (.iload_n 3, 1) := by decide +kernel
theorem dX1_doOp_199 : decode cX1_doOp 199 = .ok (.invokevirtual 69, 3) := by decide +kernel
theorem dX1_doOp_202 : decode cX1_doOp 202 = .ok (.ireturn, 1) := by decide +kernel
theorem dX1_doOp_203 : decode cX1_doOp 203 = .ok (.aload_n 0, 1) := by decide +kernel
theorem dX1_doOp_204 : decode cX1_doOp 204 = .ok (.invokevirtual 72, 3) := by decide +kernel
theorem dX1_doOp_207 : decode cX1_doOp 207 = .ok (.ireturn, 1) := by decide +kernel
theorem dX1_perform_0 : decode cX1_perform 0 = .ok (.aload_n 0, 1) := by decide +kernel
theorem dX1_perform_1 : decode cX1_perform 1 = .ok (.getfield 12, 3) := by decide +kernel
theorem dX1_perform_4 : decode cX1_perform 4 = .ok (.iload_n 2, 1) := by decide +kernel
theorem dX1_perform_5 : decode cX1_perform 5 = .ok (.invokevirtual 36, 3) := by decide +kernel
theorem dX1_perform_8 : decode cX1_perform 8 = .ok (.aload_n 0, 1) := by decide +kernel
theorem dX1_perform_9 : decode cX1_perform 9 = .ok (.iconst (-1), 1) := by decide +kernel
theorem dX1_perform_10 : decode cX1_perform 10 = .ok (.putfield 28, 3) := by decide +kernel
theorem dX1_perform_13 : decode cX1_perform 13 = .ok (.aload_n 0, 1) := by decide +kernel
theorem dX1_perform_14 : decode cX1_perform 14 = .ok (.iload_n 1, 1) := by decide +kernel
theorem dX1_perform_15 : decode cX1_perform 15 = .ok (.invokevirtual 40, 3) := by decide +kernel
theorem dX1_perform_18 : decode cX1_perform 18 = .ok (.pop, 1) := by decide +kernel
theorem dX1_perform_19 : decode cX1_perform 19 = .ok (.iconst 0, 1) := by decide +kernel
theorem dX1_perform_20 : decode cX1_perform 20 = .ok (.istore 4, 2) := by decide +kernel
theorem dX1_perform_22 : decode cX1_perform 22 = .ok (.iload 4, 2) := by decide +kernel
theorem dX1_perform_24 : decode cX1_perform 24 = .ok (.iload_n 3, 1) := by decide +kernel
theorem dX1_perform_25 : decode cX1_perform 25 = .ok (.if_icmp .ge 37, 3) := by decide +kernel
theorem dX1_perform_28 : decode cX1_perform 28 = .ok (.aload_n 0, 1) := by decide +kernel
theorem dX1_perform_29 : decode cX1_perform 29 = .ok (.getfield 12, 3) := by decide +kernel
theorem dX1_perform_32 : decode cX1_perform 32 = .ok (.dup, 1) := by decide +kernel
theorem dX1_perform_33 : decode cX1_perform 33 = .ok (.getfield 44, 3) := by decide +kernel
theorem dX1_perform_36 : decode cX1_perform 36 = .ok (.iconst 1, 1) := by decide +kernel
theorem dX1_perform_37 : decode cX1_perform 37 = .ok (.iadd, 1) := by decide +kernel
theorem dX1_perform_38 : decode cX1_perform 38 = .ok (.putfield 44, 3) := by decide +kernel
theorem dX1_perform_41 : decode cX1_perform 41 = .ok (.aload_n 0, 1) := by decide +kernel
theorem dX1_perform_42 : decode cX1_perform 42 = .ok (.invokevirtual 47, 3) := by decide +kernel
theorem dX1_perform_45 : decode cX1_perform 45 = .ok (.istore 5, 2) := by decide +kernel
theorem dX1_perform_47 : decode cX1_perform 47 = .ok (.iload 5, 2) := by decide +kernel
theorem dX1_perform_49 : decode cX1_perform 49 = .ok (.iconst 2, 1) := by decide +kernel
theorem dX1_perform_50 : decode cX1_perform 50 = .ok (.if_icmp .eq 6, 3) := by decide +kernel
theorem dX1_perform_53 : decode cX1_perform 53 = .ok (.iload 5, 2) := by decide +kernel
theorem dX1_perform_55 : decode cX1_perform 55 = .ok (.ireturn, 1) := by decide +kernel
theorem dX1_perform_56 : decode cX1_perform 56 = .ok (.iinc 4 1, 3) := by decide +kernel
theorem dX1_perform_59 : decode cX1_perform 59 = .ok (.goto (-37), 3) := by decide +kernel
theorem dX1_perform_62 : decode cX1_perform 62 = .ok (.bipush (-5), 2) := by decide +kernel
theorem dX1_perform_64 : decode cX1_perform 64 = .ok (.ireturn, 1) := by decide +kernel
theorem dX4_cellAt_0 : decode cX4_cellAt 0 = .ok (.iload_n 1, 1) := by decide +kernel
theorem dX4_cellAt_1 : decode cX4_cellAt 1 = .ok (.ifCond .lt 18, 3) := by decide +kernel
theorem dX4_cellAt_4 : decode cX4_cellAt 4 = .ok (.iload_n 1, 1) := by decide +kernel
theorem dX4_cellAt_5 : decode cX4_cellAt 5 = .ok (.bipush 64, 2) := by decide +kernel
theorem dX4_cellAt_7 : decode cX4_cellAt 7 = .ok (.if_icmp .ge 12, 3) := by decide +kernel
theorem dX4_cellAt_10 : decode cX4_cellAt 10 = .ok (.aload_n 0, 1) := by decide +kernel
theorem dX4_cellAt_11 : decode cX4_cellAt 11 = .ok (.getfield 18, 3) := by decide +kernel
theorem dX4_cellAt_14 : decode cX4_cellAt 14 = .ok (.iload_n 1, 1) := by decide +kernel
theorem dX4_cellAt_15 : decode cX4_cellAt 15 = .ok (.iaload, 1) := by decide +kernel
theorem dX4_cellAt_16 : decode cX4_cellAt 16 = .ok (.goto 4, 3) := by decide +kernel
theorem dX4_cellAt_19 : decode cX4_cellAt 19 = .ok (.iconst 0, 1) := by decide +kernel
theorem dX4_cellAt_20 : decode cX4_cellAt 20 = .ok (.ireturn, 1) := by decide +kernel
theorem dX4_fetch_0 : decode cX4_fetch 0 = .ok (.aload_n 0, 1) := by decide +kernel
theorem dX4_fetch_1 : decode cX4_fetch 1 = .ok (.getfield 35, 3) := by decide +kernel
theorem dX4_fetch_4 : decode cX4_fetch 4 = .ok (.aload_n 0, 1) := by decide +kernel
theorem dX4_fetch_5 : decode cX4_fetch 5 = .ok (.getfield 32, 3) := by decide +kernel
theorem dX4_fetch_8 : decode cX4_fetch 8 = .ok (.aload_n 0, 1) := by decide +kernel
theorem dX4_fetch_9 : decode cX4_fetch 9 = .ok (.getfield 29, 3) := by decide +kernel
theorem dX4_fetch_12 : decode cX4_fetch 12 = .ok (.invokevirtual 59, 3) := by decide +kernel
theorem dX4_fetch_15 : decode cX4_fetch 15 = .ok (.istore_n 1, 1) := by decide +kernel
theorem dX4_fetch_16 : decode cX4_fetch 16 = .ok (.aload_n 0, 1) := by decide +kernel
theorem dX4_fetch_17 : decode cX4_fetch 17 = .ok (.dup, 1) := by decide +kernel
theorem dX4_fetch_18 : decode cX4_fetch 18 = .ok (.getfield 29, 3) := by decide +kernel
theorem dX4_fetch_21 : decode cX4_fetch 21 = .ok (.iconst 1, 1) := by decide +kernel
theorem dX4_fetch_22 : decode cX4_fetch 22 = .ok (.iadd, 1) := by decide +kernel
theorem dX4_fetch_23 : decode cX4_fetch 23 = .ok (.putfield 29, 3) := by decide +kernel
theorem dX4_fetch_26 : decode cX4_fetch 26 = .ok (.iload_n 1, 1) := by decide +kernel
theorem dX4_fetch_27 : decode cX4_fetch 27 = .ok (.ireturn, 1) := by decide +kernel
theorem dX4_setCell_0 : decode cX4_setCell 0 = .ok (.iload_n 1, 1) := by decide +kernel
theorem dX4_setCell_1 : decode cX4_setCell 1 = .ok (.ifCond .lt 16, 3) := by decide +kernel
theorem dX4_setCell_4 : decode cX4_setCell 4 = .ok (.iload_n 1, 1) := by decide +kernel
theorem dX4_setCell_5 : decode cX4_setCell 5 = .ok (.bipush 64, 2) := by decide +kernel
theorem dX4_setCell_7 : decode cX4_setCell 7 = .ok (.if_icmp .ge 10, 3) := by decide +kernel
theorem dX4_setCell_10 : decode cX4_setCell 10 = .ok (.aload_n 0, 1) := by decide +kernel
theorem dX4_setCell_11 : decode cX4_setCell 11 = .ok (.getfield 18, 3) := by decide +kernel
theorem dX4_setCell_14 : decode cX4_setCell 14 = .ok (.iload_n 1, 1) := by decide +kernel
theorem dX4_setCell_15 : decode cX4_setCell 15 = .ok (.iload_n 2, 1) := by decide +kernel
theorem dX4_setCell_16 : decode cX4_setCell 16 = .ok (.iastore, 1) := by decide +kernel
theorem dX4_setCell_17 : decode cX4_setCell 17 = .ok (.return_, 1) := by decide +kernel
theorem dX4_clearCells_0 : decode cX4_clearCells 0 = .ok (.aload_n 0, 1) := by decide +kernel
theorem dX4_clearCells_1 : decode cX4_clearCells 1 = .ok (.invokevirtual 52, 3) := by decide +kernel
theorem dX4_clearCells_4 : decode cX4_clearCells 4 = .ok (.istore_n 1, 1) := by decide +kernel
theorem dX4_clearCells_5 : decode cX4_clearCells 5 = .ok (.aload_n 0, 1) := by decide +kernel
theorem dX4_clearCells_6 : decode cX4_clearCells 6 = .ok (.invokevirtual 52, 3) := by decide +kernel
theorem dX4_clearCells_9 : decode cX4_clearCells 9 = .ok (.istore_n 2, 1) := by decide +kernel
theorem dX4_clearCells_10 : decode cX4_clearCells 10 = .ok (.iconst 0, 1) := by decide +kernel
theorem dX4_clearCells_11 : decode cX4_clearCells 11 = .ok (.istore_n 3, 1) := by decide +kernel
theorem dX4_clearCells_12 : decode cX4_clearCells 12 = .ok (.iload_n 3, 1) := by decide +kernel
theorem dX4_clearCells_13 : decode cX4_clearCells 13 = .ok (.iload_n 2, 1) := by decide +kernel
theorem dX4_clearCells_14 : decode cX4_clearCells 14 = .ok (.if_icmp .ge 17, 3) := by decide +kernel
theorem dX4_clearCells_17 : decode cX4_clearCells 17 = .ok (.aload_n 0, 1) := by decide +kernel
theorem dX4_clearCells_18 : decode cX4_clearCells 18 = .ok (.iload_n 1, 1) := by decide +kernel
theorem dX4_clearCells_19 : decode cX4_clearCells 19 = .ok (.iload_n 3, 1) := by decide +kernel
theorem dX4_clearCells_20 : decode cX4_clearCells 20 = .ok (.iadd, 1) := by decide +kernel
theorem dX4_clearCells_21 : decode cX4_clearCells 21 = .ok (.iconst 0, 1) := by decide +kernel
theorem dX4_clearCells_22 : decode cX4_clearCells 22 = .ok (.invokevirtual 78, 3) := by decide +kernel
theorem dX4_clearCells_25 : decode cX4_clearCells 25 = .ok (.iinc 3 1, 3) := by decide +kernel
theorem dX4_clearCells_28 : decode cX4_clearCells 28 = .ok (.goto (-16), 3) := by decide +kernel
theorem dX4_clearCells_31 : decode cX4_clearCells 31 = .ok (.return_, 1) := by decide +kernel
theorem dX4_push_0 : decode cX4_push 0 = .ok (.aload_n 0, 1) := by decide +kernel
theorem dX4_push_1 : decode cX4_push 1 = .ok (.getfield 25, 3) := by decide +kernel
theorem dX4_push_4 : decode cX4_push 4 = .ok (.bipush 60, 2) := by decide +kernel
theorem dX4_push_6 : decode cX4_push 6 = .ok (.if_icmp .lt 4, 3) := by decide +kernel
theorem dX4_push_9 : decode cX4_push 9 = .ok (.return_, 1) := by decide +kernel
theorem dX4_push_10 : decode cX4_push 10 = .ok (.aload_n 0, 1) := by decide +kernel
theorem dX4_push_11 : decode cX4_push 11 = .ok (.getfield 22, 3) := by decide +kernel
theorem dX4_push_14 : decode cX4_push 14 = .ok (.aload_n 0, 1) := by decide +kernel
theorem dX4_push_15 : decode cX4_push 15 = .ok (.getfield 25, 3) := by decide +kernel
theorem dX4_push_18 : decode cX4_push 18 = .ok (.iload_n 1, 1) := by decide +kernel
theorem dX4_push_19 : decode cX4_push 19 = .ok (.iastore, 1) := by decide +kernel
theorem dX4_push_20 : decode cX4_push 20 = .ok (.aload_n 0, 1) := by decide +kernel
theorem dX4_push_21 : decode cX4_push 21 = .ok (.dup, 1) := by decide +kernel
theorem dX4_push_22 : decode cX4_push 22 = .ok (.getfield 25, 3) := by decide +kernel
theorem dX4_push_25 : decode cX4_push 25 = .ok (.iconst 1, 1) := by decide +kernel
theorem dX4_push_26 : decode cX4_push 26 = .ok (.iadd, 1) := by decide +kernel
theorem dX4_push_27 : decode cX4_push 27 = .ok (.putfield 25, 3) := by decide +kernel
theorem dX4_push_30 : decode cX4_push 30 = .ok (.aload_n 0, 1) := by decide +kernel
theorem dX4_push_31 : decode cX4_push 31 = .ok (.getfield 12, 3) := by decide +kernel
theorem dX4_push_34 : decode cX4_push 34 = .ok (.aload_n 0, 1) := by decide +kernel
theorem dX4_push_35 : decode cX4_push 35 = .ok (.getfield 25, 3) := by decide +kernel
theorem dX4_push_38 : decode cX4_push 38 = .ok (.invokevirtual 104, 3) := by decide +kernel
theorem dX4_push_41 : decode cX4_push 41 = .ok (.return_, 1) := by decide +kernel
theorem dX4_goInto_0 : decode cX4_goInto 0 = .ok (.aload_n 0, 1) := by decide +kernel
theorem dX4_goInto_1 : decode cX4_goInto 1 = .ok (.invokevirtual 52, 3) := by decide +kernel
theorem dX4_goInto_4 : decode cX4_goInto 4 = .ok (.istore_n 1, 1) := by decide +kernel
theorem dX4_goInto_5 : decode cX4_goInto 5 = .ok (.aload_n 0, 1) := by decide +kernel
theorem dX4_goInto_6 : decode cX4_goInto 6 = .ok (.invokevirtual 52, 3) := by decide +kernel
theorem dX4_goInto_9 : decode cX4_goInto 9 = .ok (.istore_n 2, 1) := by decide +kernel
theorem dX4_goInto_10 : decode cX4_goInto 10 = .ok (.aload_n 0, 1) := by decide +kernel
theorem dX4_goInto_11 : decode cX4_goInto 11 = .ok (.aload_n 0, 1) := by decide +kernel
theorem dX4_goInto_12 : decode cX4_goInto 12 = .ok (.getfield 29, 3) := by decide +kernel
theorem dX4_goInto_15 : decode cX4_goInto 15 = .ok (.invokevirtual 92, 3) := by decide +kernel
theorem dX4_goInto_18 : decode cX4_goInto 18 = .ok (.aload_n 0, 1) := by decide +kernel
theorem dX4_goInto_19 : decode cX4_goInto 19 = .ok (.iload_n 2, 1) := by decide +kernel
theorem dX4_goInto_20 : decode cX4_goInto 20 = .ok (.sipush 256, 3) := by decide +kernel
theorem dX4_goInto_23 : decode cX4_goInto 23 = .ok (.imul, 1) := by decide +kernel
theorem dX4_goInto_24 : decode cX4_goInto 24 = .ok (.iload_n 1, 1) := by decide +kernel
theorem dX4_goInto_25 : decode cX4_goInto 25 = .ok (.iadd, 1) := by decide +kernel
theorem dX4_goInto_26 : decode cX4_goInto 26 = .ok (.putfield 29, 3) := by decide +kernel
theorem dX4_goInto_29 : decode cX4_goInto 29 = .ok (.return_, 1) := by decide +kernel
theorem dX4_jumpIf_0 : decode cX4_jumpIf 0 = .ok (.aload_n 0, 1) := by decide +kernel
theorem dX4_jumpIf_1 : decode cX4_jumpIf 1 = .ok (.invokevirtual 52, 3) := by decide +kernel
theorem dX4_jumpIf_4 : decode cX4_jumpIf 4 = .ok (.istore_n 2, 1) := by decide +kernel
theorem dX4_jumpIf_5 : decode cX4_jumpIf 5 = .ok (.iload_n 1, 1) := by decide +kernel
theorem dX4_jumpIf_6 : decode cX4_jumpIf 6 = .ok (.ifCond .eq 27, 3) := by decide +kernel
theorem dX4_jumpIf_9 : decode cX4_jumpIf 9 = .ok (.aload_n 0, 1) := by decide +kernel
theorem dX4_jumpIf_10 : decode cX4_jumpIf 10 = .ok (.dup, 1) := by decide +kernel
theorem dX4_jumpIf_11 : decode cX4_jumpIf 11 = .ok (.getfield 29, 3) := by decide +kernel
theorem dX4_jumpIf_14 : decode cX4_jumpIf 14 = .ok (.iload_n 2, 1) := by decide +kernel
theorem dX4_jumpIf_15 : decode cX4_jumpIf 15 = .ok (.bipush 127, 2) := by decide +kernel
theorem dX4_jumpIf_17 : decode cX4_jumpIf 17 = .ok (.if_icmp .le 11, 3) := by decide +kernel
theorem dX4_jumpIf_20 : decode cX4_jumpIf 20 = .ok (.iload_n 2, 1) := by decide +kernel
theorem dX4_jumpIf_21 : decode cX4_jumpIf 21 = .ok (.sipush 256, 3) := by decide +kernel
theorem dX4_jumpIf_24 : decode cX4_jumpIf 24 = .ok (.isub, 1) := by decide +kernel
theorem dX4_jumpIf_25 : decode cX4_jumpIf 25 = .ok (.goto 4, 3) := by decide +kernel
theorem dX4_jumpIf_28 : decode cX4_jumpIf 28 = .ok (.iload_n 2, 1) := by decide +kernel
theorem dX4_jumpIf_29 : decode cX4_jumpIf 29 = .ok (.iadd, 1) := by decide +kernel
theorem dX4_jumpIf_30 : decode cX4_jumpIf 30 = .ok (.putfield 29, 3) := by decide +kernel
theorem dX4_jumpIf_33 : decode cX4_jumpIf 33 = .ok (.return_, 1) := by decide +kernel
theorem dX4_pop_0 : decode cX4_pop 0 = .ok (.aload_n 0, 1) := by decide +kernel
theorem dX4_pop_1 : decode cX4_pop 1 = .ok (.getfield 25, 3) := by decide +kernel
theorem dX4_pop_4 : decode cX4_pop 4 = .ok (.ifCond .gt 5, 3) := by decide +kernel
theorem dX4_pop_7 : decode cX4_pop 7 = .ok (.iconst 0, 1) := by decide +kernel
theorem dX4_pop_8 : decode cX4_pop 8 = .ok (.ireturn, 1) := by decide +kernel
theorem dX4_pop_9 : decode cX4_pop 9 = .ok (.aload_n 0, 1) := by decide +kernel
theorem dX4_pop_10 : decode cX4_pop 10 = .ok (.dup, 1) := by decide +kernel
theorem dX4_pop_11 : decode cX4_pop 11 = .ok (.getfield 25, 3) := by decide +kernel
theorem dX4_pop_14 : decode cX4_pop 14 = .ok (.iconst 1, 1) := by decide +kernel
theorem dX4_pop_15 : decode cX4_pop 15 = .ok (.isub, 1) := by decide +kernel
theorem dX4_pop_16 : decode cX4_pop 16 = .ok (.putfield 25, 3) := by decide +kernel
theorem dX4_pop_19 : decode cX4_pop 19 = .ok (.aload_n 0, 1) := by decide +kernel
theorem dX4_pop_20 : decode cX4_pop 20 = .ok (.getfield 22, 3) := by decide +kernel
theorem dX4_pop_23 : decode cX4_pop 23 = .ok (.aload_n 0, 1) := by decide +kernel
theorem dX4_pop_24 : decode cX4_pop 24 = .ok (.getfield 25, 3) := by decide +kernel
theorem dX4_pop_27 : decode cX4_pop 27 = .ok (.iaload, 1) := by decide +kernel
theorem dX4_pop_28 : decode cX4_pop 28 = .ok (.ireturn, 1) := by decide +kernel
theorem dX4_switchTo_0 : decode cX4_switchTo 0 = .ok (.aload_n 0, 1) := by decide +kernel
theorem dX4_switchTo_1 : decode cX4_switchTo 1 = .ok (.iload_n 1, 1) := by decide +kernel
theorem dX4_switchTo_2 : decode cX4_switchTo 2 = .ok (.putfield 32, 3) := by decide +kernel
theorem dX4_switchTo_5 : decode cX4_switchTo 5 = .ok (.aload_n 0, 1) := by decide +kernel
theorem dX4_switchTo_6 : decode cX4_switchTo 6 = .ok (.getfield 12, 3) := by decide +kernel
theorem dX4_switchTo_9 : decode cX4_switchTo 9 = .ok (.dup, 1) := by decide +kernel
theorem dX4_switchTo_10 : decode cX4_switchTo 10 = .ok (.getfield 101, 3) := by decide +kernel
theorem dX4_switchTo_13 : decode cX4_switchTo 13 = .ok (.iconst 1, 1) := by decide +kernel
theorem dX4_switchTo_14 : decode cX4_switchTo 14 = .ok (.iadd, 1) := by decide +kernel
theorem dX4_switchTo_15 : decode cX4_switchTo 15 = .ok (.putfield 101, 3) := by decide +kernel
theorem dX4_switchTo_18 : decode cX4_switchTo 18 = .ok (.return_, 1) := by decide +kernel
theorem dX4_doCode_0 : decode cX4_doCode 0 = .ok (.iload_n 1, 1) := by decide +kernel
theorem dX4_doCode_1 : decode cX4_doCode 1 = .ok (.tableswitch 229 0 12 #[67, 81, 95, 105, 123, 141, 148, 170, 178, 189, 200, 211, 222], 67) := by decide +kernel
theorem dX4_doCode_68 : decode cX4_doCode 68 = .ok (.aload_n 0, 1) := by decide +kernel
theorem dX4_doCode_69 : decode cX4_doCode 69 = .ok (.getfield 12, 3) := by decide +kernel
theorem dX4_doCode_72 : decode cX4_doCode 72 = .ok (.aload_n 0, 1) := by decide +kernel
theorem dX4_doCode_73 : decode cX4_doCode 73 = .ok (.invokevirtual 52, 3) := by decide +kernel
theorem dX4_doCode_76 : decode cX4_doCode 76 = .ok (.putfield 65, 3) := by decide +kernel
theorem dX4_doCode_79 : decode cX4_doCode 79 = .ok (.goto 151, 3) := by decide +kernel
theorem dX4_doCode_82 : decode cX4_doCode 82 = .ok (.aload_n 0, 1) := by decide +kernel
theorem dX4_doCode_83 : decode cX4_doCode 83 = .ok (.getfield 12, 3) := by decide +kernel
theorem dX4_doCode_86 : decode cX4_doCode 86 = .ok (.aload_n 0, 1) := by decide +kernel
theorem dX4_doCode_87 : decode cX4_doCode 87 = .ok (.invokevirtual 52, 3) := by decide +kernel
theorem dX4_doCode_90 : decode cX4_doCode 90 = .ok (.invokevirtual 68, 3) := by decide +kernel
theorem dX4_doCode_93 : decode cX4_doCode 93 = .ok (.goto 137, 3) := by decide +kernel
theorem dX4_doCode_96 : decode cX4_doCode 96 = .ok (.aload_n 0, 1) := by decide +kernel
theorem dX4_doCode_97 : decode cX4_doCode 97 = .ok (.getfield 12, 3) := by decide +kernel
theorem dX4_doCode_100 : decode cX4_doCode 100 = .ok (.invokevirtual 71, 3) := by decide +kernel
theorem dX4_doCode_103 : decode cX4_doCode 103 = .ok (.goto 127, 3) := by decide +kernel
theorem dX4_doCode_106 : decode cX4_doCode 106 = .ok (.aload_n 0, 1) := by decide +kernel
theorem dX4_doCode_107 : decode cX4_doCode 107 = .ok (.getfield 12, 3) := by decide +kernel
theorem dX4_doCode_110 : decode cX4_doCode 110 = .ok (.aload_n 0, 1) := by decide +kernel
theorem dX4_doCode_111 : decode cX4_doCode 111 = .ok (.aload_n 0, 1) := by decide +kernel
theorem dX4_doCode_112 : decode cX4_doCode 112 = .ok (.invokevirtual 52, 3) := by decide +kernel
theorem dX4_doCode_115 : decode cX4_doCode 115 = .ok (.invokevirtual 74, 3) := by decide +kernel
theorem dX4_doCode_118 : decode cX4_doCode 118 = .ok (.putfield 65, 3) := by decide +kernel
theorem dX4_doCode_121 : decode cX4_doCode 121 = .ok (.goto 109, 3) := by decide +kernel
theorem dX4_doCode_124 : decode cX4_doCode 124 = .ok (.aload_n 0, 1) := by decide +kernel
theorem dX4_doCode_125 : decode cX4_doCode 125 = .ok (.aload_n 0, 1) := by decide +kernel
theorem dX4_doCode_126 : decode cX4_doCode 126 = .ok (.invokevirtual 52, 3) := by decide +kernel
theorem dX4_doCode_129 : decode cX4_doCode 129 = .ok (.aload_n 0, 1) := by decide +kernel
theorem dX4_doCode_130 : decode cX4_doCode 130 = .ok (.getfield 12, 3) := by decide +kernel
theorem dX4_doCode_133 : decode cX4_doCode 133 = .ok (.getfield 65, 3) := by decide +kernel
theorem dX4_doCode_136 : decode cX4_doCode 136 = .ok (.invokevirtual 78, 3) := by decide +kernel
theorem dX4_doCode_139 : decode cX4_doCode 139 = .ok (.goto 91, 3) := by decide +kernel
theorem dX4_doCode_142 : decode cX4_doCode 142 = .ok (.aload_n 0, 1) := by decide +kernel
theorem dX4_doCode_143 : decode cX4_doCode 143 = .ok (.invokevirtual 82, 3) := by decide +kernel
theorem dX4_doCode_146 : decode cX4_doCode 146 = .ok (.goto 84, 3) := by decide +kernel
theorem dX4_doCode_149 : decode cX4_doCode 149 = .ok (.aload_n 0, 1) := by decide +kernel
theorem dX4_doCode_150 : decode cX4_doCode 150 = .ok (.aload_n 0, 1) := by decide +kernel
theorem dX4_doCode_151 : decode cX4_doCode 151 = .ok (.getfield 12, 3) := by decide +kernel
theorem dX4_doCode_154 : decode cX4_doCode 154 = .ok (.getfield 65, 3) := by decide +kernel
theorem dX4_doCode_157 : decode cX4_doCode 157 = .ok (.ifCond .ne 7, 3) := by decide +kernel
theorem dX4_doCode_160 : decode cX4_doCode 160 = .ok (.iconst 1, 1) := by decide +kernel
theorem dX4_doCode_161 : decode cX4_doCode 161 = .ok (.goto 4, 3) := by decide +kernel
theorem dX4_doCode_164 : decode cX4_doCode 164 = .ok (.iconst 0, 1) := by decide +kernel
theorem dX4_doCode_165 : decode cX4_doCode 165 = .ok (.invokevirtual 85, 3) := by decide +kernel
theorem dX4_doCode_168 : decode cX4_doCode 168 = .ok (.goto 62, 3) := by decide +kernel
theorem dX4_doCode_171 : decode cX4_doCode 171 = .ok (.aload_n 0, 1) := by decide +kernel
theorem dX4_doCode_172 : decode cX4_doCode 172 = .ok (.iconst 1, 1) := by decide +kernel
theorem dX4_doCode_173 : decode cX4_doCode 173 = .ok (.invokevirtual 85, 3) := by decide +kernel
theorem dX4_doCode_176 : decode cX4_doCode 176 = .ok (.goto 54, 3) := by decide +kernel
theorem dX4_doCode_179 : decode cX4_doCode 179 = .ok (.aload_n 0, 1) := by decide +kernel
theorem dX4_doCode_180 : decode cX4_doCode 180 = .ok (.aload_n 0, 1) := by decide +kernel
theorem dX4_doCode_181 : decode cX4_doCode 181 = .ok (.invokevirtual 89, 3) := by decide +kernel
theorem dX4_doCode_184 : decode cX4_doCode 184 = .ok (.putfield 29, 3) := by decide +kernel
theorem dX4_doCode_187 : decode cX4_doCode 187 = .ok (.goto 43, 3) := by decide +kernel
theorem dX4_doCode_190 : decode cX4_doCode 190 = .ok (.aload_n 0, 1) := by decide +kernel
theorem dX4_doCode_191 : decode cX4_doCode 191 = .ok (.aload_n 0, 1) := by decide +kernel
theorem dX4_doCode_192 : decode cX4_doCode 192 = .ok (.getfield 32, 3) := by decide +kernel
theorem dX4_doCode_195 : decode cX4_doCode 195 = .ok (.invokevirtual 92, 3) := by decide +kernel
theorem dX4_doCode_198 : decode cX4_doCode 198 = .ok (.goto 32, 3) := by decide +kernel
theorem dX4_doCode_201 : decode cX4_doCode 201 = .ok (.aload_n 0, 1) := by decide +kernel
theorem dX4_doCode_202 : decode cX4_doCode 202 = .ok (.aload_n 0, 1) := by decide +kernel
theorem dX4_doCode_203 : decode cX4_doCode 203 = .ok (.invokevirtual 52, 3) := by decide +kernel
theorem dX4_doCode_206 : decode cX4_doCode 206 = .ok (.invokevirtual 95, 3) := by decide +kernel
theorem dX4_doCode_209 : decode cX4_doCode 209 = .ok (.goto 21, 3) := by decide +kernel
theorem dX4_doCode_212 : decode cX4_doCode 212 = .ok (.aload_n 0, 1) := by decide +kernel
theorem dX4_doCode_213 : decode cX4_doCode 213 = .ok (.aload_n 0, 1) := by decide +kernel
theorem dX4_doCode_214 : decode cX4_doCode 214 = .ok (.invokevirtual 89, 3) := by decide +kernel
theorem dX4_doCode_217 : decode cX4_doCode 217 = .ok (.invokevirtual 95, 3) := by decide +kernel
theorem dX4_doCode_220 : decode cX4_doCode 220 = .ok (.goto 10, 3) := by decide +kernel
theorem dX4_doCode_223 : decode cX4_doCode 223 = .ok (.aload_n 0, 1) := by decide +kernel
theorem dX4_doCode_224 : decode cX4_doCode 224 = .ok (.invokevirtual 98, 3) := by decide +kernel
theorem dX4_doCode_227 : decode cX4_doCode 227 = .ok (.goto 3, 3) := by decide +kernel
theorem dX4_doCode_230 : decode cX4_doCode 230 = .ok (.return_, 1) := by decide +kernel
theorem dX4_perform_0 : decode cX4_perform 0 = .ok (.aload_n 0, 1) := by decide +kernel
theorem dX4_perform_1 : decode cX4_perform 1 = .ok (.getfield 12, 3) := by decide +kernel
theorem dX4_perform_4 : decode cX4_perform 4 = .ok (.iload_n 3, 1) := by decide +kernel
theorem dX4_perform_5 : decode cX4_perform 5 = .ok (.invokevirtual 39, 3) := by decide +kernel
theorem dX4_perform_8 : decode cX4_perform 8 = .ok (.aload_n 0, 1) := by decide +kernel
theorem dX4_perform_9 : decode cX4_perform 9 = .ok (.getfield 18, 3) := by decide +kernel
theorem dX4_perform_12 : decode cX4_perform 12 = .ok (.iconst 0, 1) := by decide +kernel
theorem dX4_perform_13 : decode cX4_perform 13 = .ok (.invokestatic 43, 3) := by decide +kernel
theorem dX4_perform_16 : decode cX4_perform 16 = .ok (.aload_n 0, 1) := by decide +kernel
theorem dX4_perform_17 : decode cX4_perform 17 = .ok (.iconst 0, 1) := by decide +kernel
theorem dX4_perform_18 : decode cX4_perform 18 = .ok (.putfield 25, 3) := by decide +kernel
theorem dX4_perform_21 : decode cX4_perform 21 = .ok (.aload_n 0, 1) := by decide +kernel
theorem dX4_perform_22 : decode cX4_perform 22 = .ok (.iload_n 2, 1) := by decide +kernel
theorem dX4_perform_23 : decode cX4_perform 23 = .ok (.putfield 29, 3) := by decide +kernel
theorem dX4_perform_26 : decode cX4_perform 26 = .ok (.aload_n 0, 1) := by decide +kernel
theorem dX4_perform_27 : decode cX4_perform 27 = .ok (.iload_n 1, 1) := by decide +kernel
theorem dX4_perform_28 : decode cX4_perform 28 = .ok (.putfield 32, 3) := by decide +kernel
theorem dX4_perform_31 : decode cX4_perform 31 = .ok (.iconst 0, 1) := by decide +kernel
theorem dX4_perform_32 : decode cX4_perform 32 = .ok (.istore 5, 2) := by decide +kernel
theorem dX4_perform_34 : decode cX4_perform 34 = .ok (.iload 5, 2) := by decide +kernel
theorem dX4_perform_36 : decode cX4_perform 36 = .ok (.iload 4, 2) := by decide +kernel
theorem dX4_perform_38 : decode cX4_perform 38 = .ok (.if_icmp .ge 50, 3) := by decide +kernel
theorem dX4_perform_41 : decode cX4_perform 41 = .ok (.aload_n 0, 1) := by decide +kernel
theorem dX4_perform_42 : decode cX4_perform 42 = .ok (.getfield 12, 3) := by decide +kernel
theorem dX4_perform_45 : decode cX4_perform 45 = .ok (.dup, 1) := by decide +kernel
theorem dX4_perform_46 : decode cX4_perform 46 = .ok (.getfield 49, 3) := by decide +kernel
theorem dX4_perform_49 : decode cX4_perform 49 = .ok (.iconst 1, 1) := by decide +kernel
theorem dX4_perform_50 : decode cX4_perform 50 = .ok (.iadd, 1) := by decide +kernel
theorem dX4_perform_51 : decode cX4_perform 51 = .ok (.putfield 49, 3) := by decide +kernel
theorem dX4_perform_54 : decode cX4_perform 54 = .ok (.aload_n 0, 1) := by decide +kernel
theorem dX4_perform_55 : decode cX4_perform 55 = .ok (.invokevirtual 52, 3) := by decide +kernel
theorem dX4_perform_58 : decode cX4_perform 58 = .ok (.istore 6, 2) := by decide +kernel
theorem dX4_perform_60 : decode cX4_perform 60 = .ok (.iload 6, 2) := by decide +kernel
theorem dX4_perform_62 : decode cX4_perform 62 = .ok (.bipush 8, 2) := by decide +kernel
theorem dX4_perform_64 : decode cX4_perform 64 = .ok (.if_icmp .ne 12, 3) := by decide +kernel
theorem dX4_perform_67 : decode cX4_perform 67 = .ok (.aload_n 0, 1) := by decide +kernel
theorem dX4_perform_68 : decode cX4_perform 68 = .ok (.getfield 25, 3) := by decide +kernel
theorem dX4_perform_71 : decode cX4_perform 71 = .ok (.ifCond .ne 5, 3) := by decide +kernel
theorem dX4_perform_74 : decode cX4_perform 74 = .ok (.iconst 1, 1) := by decide +kernel
theorem dX4_perform_75 : decode cX4_perform 75 = .ok (.ireturn, 1) := by decide +kernel
theorem dX4_perform_76 : decode cX4_perform 76 = .ok (.aload_n 0, 1) := by decide +kernel
theorem dX4_perform_77 : decode cX4_perform 77 = .ok (.iload 6, 2) := by decide +kernel
theorem dX4_perform_79 : decode cX4_perform 79 = .ok (.invokevirtual 56, 3) := by decide +kernel
theorem dX4_perform_82 : decode cX4_perform 82 = .ok (.iinc 5 1, 3) := by decide +kernel
theorem dX4_perform_85 : decode cX4_perform 85 = .ok (.goto (-51), 3) := by decide +kernel
theorem dX4_perform_88 : decode cX4_perform 88 = .ok (.bipush (-5), 2) := by decide +kernel
theorem dX4_perform_90 : decode cX4_perform 90 = .ok (.ireturn, 1) := by decide +kernel
