theorem dX9_codeAt_0 : decode cX9_codeAt 0 = .ok (.iload_n 1, 1) := by decide +kernel
theorem dX9_codeAt_1 : decode cX9_codeAt 1 = .ok (.sipush 256, 3) := by decide +kernel
theorem dX9_codeAt_4 : decode cX9_codeAt 4 = .ok (.if_icmp .ge 12, 3) := by decide +kernel
theorem dX9_codeAt_7 : decode cX9_codeAt 7 = .ok (.aload_n 0, 1) := by decide +kernel
theorem dX9_codeAt_8 : decode cX9_codeAt 8 = .ok (.getfield 53, 3) := by decide +kernel
theorem dX9_codeAt_11 : decode cX9_codeAt 11 = .ok (.iload_n 1, 1) := by decide +kernel
theorem dX9_codeAt_12 : decode cX9_codeAt 12 = .ok (.iaload, 1) := by decide +kernel
theorem dX9_codeAt_13 : decode cX9_codeAt 13 = .ok (.goto 22, 3) := by decide +kernel
theorem dX9_codeAt_16 : decode cX9_codeAt 16 = .ok (.aload_n 0, 1) := by decide +kernel
theorem dX9_codeAt_17 : decode cX9_codeAt 17 = .ok (.getfield 56, 3) := by decide +kernel
theorem dX9_codeAt_20 : decode cX9_codeAt 20 = .ok (.sipush 250, 3) := by decide +kernel
theorem dX9_codeAt_23 : decode cX9_codeAt 23 = .ok (.aload_n 0, 1) := by decide +kernel
theorem dX9_codeAt_24 : decode cX9_codeAt 24 = .ok (.getfield 193, 3) := by decide +kernel
theorem dX9_codeAt_27 : decode cX9_codeAt 27 = .ok (.imul, 1) := by decide +kernel
theorem dX9_codeAt_28 : decode cX9_codeAt 28 = .ok (.iload_n 1, 1) := by decide +kernel
theorem dX9_codeAt_29 : decode cX9_codeAt 29 = .ok (.iadd, 1) := by decide +kernel
theorem dX9_codeAt_30 : decode cX9_codeAt 30 = .ok (.sipush 256, 3) := by decide +kernel
theorem dX9_codeAt_33 : decode cX9_codeAt 33 = .ok (.isub, 1) := by decide +kernel
theorem dX9_codeAt_34 : decode cX9_codeAt 34 = .ok (.iaload, 1) := by decide +kernel
theorem dX9_codeAt_35 : decode cX9_codeAt 35 = .ok (.ireturn, 1) := by decide +kernel
theorem dX9_send_0 : decode cX9_send 0 = .ok (.aload_n 0, 1) := by decide +kernel
theorem dX9_send_1 : decode cX9_send 1 = .ok (.getfield 69, 3) := by decide +kernel
theorem dX9_send_4 : decode cX9_send 4 = .ok (.iconst 5, 1) := by decide +kernel
theorem dX9_send_5 : decode cX9_send 5 = .ok (.iload_n 1, 1) := by decide +kernel
theorem dX9_send_6 : decode cX9_send 6 = .ok (.imul, 1) := by decide +kernel
theorem dX9_send_7 : decode cX9_send 7 = .ok (.iconst 2, 1) := by decide +kernel
theorem dX9_send_8 : decode cX9_send 8 = .ok (.iadd, 1) := by decide +kernel
theorem dX9_send_9 : decode cX9_send 9 = .ok (.iaload, 1) := by decide +kernel
theorem dX9_send_10 : decode cX9_send 10 = .ok (.bipush 100, 2) := by decide +kernel
theorem dX9_send_12 : decode cX9_send 12 = .ok (.if_icmp .ge 24, 3) := by decide +kernel
theorem dX9_send_15 : decode cX9_send 15 = .ok (.aload_n 0, 1) := by decide +kernel
theorem dX9_send_16 : decode cX9_send 16 = .ok (.getfield 72, 3) := by decide +kernel
theorem dX9_send_19 : decode cX9_send 19 = .ok (.bipush 100, 2) := by decide +kernel
theorem dX9_send_21 : decode cX9_send 21 = .ok (.iload_n 1, 1) := by decide +kernel
theorem dX9_send_22 : decode cX9_send 22 = .ok (.imul, 1) := by decide +kernel
theorem dX9_send_23 : decode cX9_send 23 = .ok (.aload_n 0, 1) := by decide +kernel
theorem dX9_send_24 : decode cX9_send 24 = .ok (.getfield 69, 3) := by decide +kernel
theorem dX9_send_27 : decode cX9_send 27 = .ok (.iconst 5, 1) := by decide +kernel
theorem dX9_send_28 : decode cX9_send 28 = .ok (.iload_n 1, 1) := by decide +kernel
theorem dX9_send_29 : decode cX9_send 29 = .ok (.imul, 1) := by decide +kernel
theorem dX9_send_30 : decode cX9_send 30 = .ok (.iconst 2, 1) := by decide +kernel
theorem dX9_send_31 : decode cX9_send 31 = .ok (.iadd, 1) := by decide +kernel
theorem dX9_send_32 : decode cX9_send 32 = .ok (.iaload, 1) := by decide +kernel
theorem dX9_send_33 : decode cX9_send 33 = .ok (.iadd, 1) := by decide +kernel
theorem dX9_send_34 : decode cX9_send 34 = .ok (.iload_n 2, 1) := by decide +kernel
theorem dX9_send_35 : decode cX9_send 35 = .ok (.iastore, 1) := by decide +kernel
theorem dX9_send_36 : decode cX9_send 36 = .ok (.aload_n 0, 1) := by decide +kernel
theorem dX9_send_37 : decode cX9_send 37 = .ok (.getfield 69, 3) := by decide +kernel
theorem dX9_send_40 : decode cX9_send 40 = .ok (.iconst 5, 1) := by decide +kernel
theorem dX9_send_41 : decode cX9_send 41 = .ok (.iload_n 1, 1) := by decide +kernel
theorem dX9_send_42 : decode cX9_send 42 = .ok (.imul, 1) := by decide +kernel
theorem dX9_send_43 : decode cX9_send 43 = .ok (.iconst 2, 1) := by decide +kernel
theorem dX9_send_44 : decode cX9_send 44 = .ok (.iadd, 1) := by decide +kernel
theorem dX9_send_45 : decode cX9_send 45 = .ok (.dup2, 1) := by decide +kernel
theorem dX9_send_46 : decode cX9_send 46 = .ok (.iaload, 1) := by decide +kernel
theorem dX9_send_47 : decode cX9_send 47 = .ok (.iconst 1, 1) := by decide +kernel
theorem dX9_send_48 : decode cX9_send 48 = .ok (.iadd, 1) := by decide +kernel
theorem dX9_send_49 : decode cX9_send 49 = .ok (.iastore, 1) := by decide +kernel
theorem dX9_send_50 : decode cX9_send 50 = .ok (.return_, 1) := by decide +kernel
theorem dX9_begin_0 : decode cX9_begin 0 = .ok (.iconst 0, 1) := by decide +kernel
theorem dX9_begin_1 : decode cX9_begin 1 = .ok (.istore_n 2, 1) := by decide +kernel
theorem dX9_begin_2 : decode cX9_begin 2 = .ok (.iload_n 2, 1) := by decide +kernel
theorem dX9_begin_3 : decode cX9_begin 3 = .ok (.iconst 5, 1) := by decide +kernel
theorem dX9_begin_4 : decode cX9_begin 4 = .ok (.if_icmp .ge 20, 3) := by decide +kernel
theorem dX9_begin_7 : decode cX9_begin 7 = .ok (.aload_n 0, 1) := by decide +kernel
theorem dX9_begin_8 : decode cX9_begin 8 = .ok (.getfield 69, 3) := by decide +kernel
theorem dX9_begin_11 : decode cX9_begin 11 = .ok (.iconst 5, 1) := by decide +kernel
theorem dX9_begin_12 : decode cX9_begin 12 = .ok (.iload_n 1, 1) := by decide +kernel
theorem dX9_begin_13 : decode cX9_begin 13 = .ok (.imul, 1) := by decide +kernel
theorem dX9_begin_14 : decode cX9_begin 14 = .ok (.iload_n 2, 1) := by decide +kernel
theorem dX9_begin_15 : decode cX9_begin 15 = .ok (.iadd, 1) := by decide +kernel
theorem dX9_begin_16 : decode cX9_begin 16 = .ok (.iconst 0, 1) := by decide +kernel
theorem dX9_begin_17 : decode cX9_begin 17 = .ok (.iastore, 1) := by decide +kernel
theorem dX9_begin_18 : decode cX9_begin 18 = .ok (.iinc 2 1, 3) := by decide +kernel
theorem dX9_begin_21 : decode cX9_begin 21 = .ok (.goto (-19), 3) := by decide +kernel
theorem dX9_begin_24 : decode cX9_begin 24 = .ok (.aload_n 0, 1) := by decide +kernel
theorem dX9_begin_25 : decode cX9_begin 25 = .ok (.iconst 0, 1) := by decide +kernel
theorem dX9_begin_26 : decode cX9_begin 26 = .ok (.putfield 196, 3) := by decide +kernel
theorem dX9_begin_29 : decode cX9_begin 29 = .ok (.return_, 1) := by decide +kernel
theorem dX9_push_0 : decode cX9_push 0 = .ok (.aload_n 0, 1) := by decide +kernel
theorem dX9_push_1 : decode cX9_push 1 = .ok (.getfield 78, 3) := by decide +kernel
theorem dX9_push_4 : decode cX9_push 4 = .ok (.aload_n 0, 1) := by decide +kernel
theorem dX9_push_5 : decode cX9_push 5 = .ok (.getfield 196, 3) := by decide +kernel
theorem dX9_push_8 : decode cX9_push 8 = .ok (.iload_n 1, 1) := by decide +kernel
theorem dX9_push_9 : decode cX9_push 9 = .ok (.iastore, 1) := by decide +kernel
theorem dX9_push_10 : decode cX9_push 10 = .ok (.aload_n 0, 1) := by decide +kernel
theorem dX9_push_11 : decode cX9_push 11 = .ok (.dup, 1) := by decide +kernel
theorem dX9_push_12 : decode cX9_push 12 = .ok (.getfield 196, 3) := by decide +kernel
theorem dX9_push_15 : decode cX9_push 15 = .ok (.iconst 1, 1) := by decide +kernel
theorem dX9_push_16 : decode cX9_push 16 = .ok (.iadd, 1) := by decide +kernel
theorem dX9_push_17 : decode cX9_push 17 = .ok (.putfield 196, 3) := by decide +kernel
theorem dX9_push_20 : decode cX9_push 20 = .ok (.aload_n 0, 1) := by decide +kernel
theorem dX9_push_21 : decode cX9_push 21 = .ok (.getfield 69, 3) := by decide +kernel
theorem dX9_push_24 : decode cX9_push 24 = .ok (.iconst 3, 1) := by decide +kernel
theorem dX9_push_25 : decode cX9_push 25 = .ok (.aload_n 0, 1) := by decide +kernel
theorem dX9_push_26 : decode cX9_push 26 = .ok (.getfield 196, 3) := by decide +kernel
theorem dX9_push_29 : decode cX9_push 29 = .ok (.aload_n 0, 1) := by decide +kernel
theorem dX9_push_30 : decode cX9_push 30 = .ok (.getfield 69, 3) := by decide +kernel
theorem dX9_push_33 : decode cX9_push 33 = .ok (.iconst 3, 1) := by decide +kernel
theorem dX9_push_34 : decode cX9_push 34 = .ok (.iaload, 1) := by decide +kernel
theorem dX9_push_35 : decode cX9_push 35 = .ok (.if_icmp .le 10, 3) := by decide +kernel
theorem dX9_push_38 : decode cX9_push 38 = .ok (.aload_n 0, 1) := by decide +kernel
theorem dX9_push_39 : decode cX9_push 39 = .ok (.getfield 196, 3) := by decide +kernel
theorem dX9_push_42 : decode cX9_push 42 = .ok (.goto 9, 3) := by decide +kernel
theorem dX9_push_45 : decode cX9_push 45 = .ok (.aload_n 0, 1) := by decide +kernel
theorem dX9_push_46 : decode cX9_push 46 = .ok (.getfield 69, 3) := by decide +kernel
theorem dX9_push_49 : decode cX9_push 49 = .ok (.iconst 3, 1) := by decide +kernel
theorem dX9_push_50 : decode cX9_push 50 = .ok (.iaload, 1) := by decide +kernel
theorem dX9_push_51 : decode cX9_push 51 = .ok (.iastore, 1) := by decide +kernel
theorem dX9_push_52 : decode cX9_push 52 = .ok (.return_, 1) := by decide +kernel
theorem dX9_step_0 : decode cX9_step 0 = .ok (.aload_n 0, 1) := by decide +kernel
theorem dX9_step_1 : decode cX9_step 1 = .ok (.aload_n 0, 1) := by decide +kernel
theorem dX9_step_2 : decode cX9_step 2 = .ok (.getfield 207, 3) := by decide +kernel
theorem dX9_step_5 : decode cX9_step 5 = .ok (.invokevirtual 213, 3) := by decide +kernel
theorem dX9_step_8 : decode cX9_step 8 = .ok (.istore_n 1, 1) := by decide +kernel
theorem dX9_step_9 : decode cX9_step 9 = .ok (.iload_n 1, 1) := by decide +kernel
theorem dX9_step_10 : decode cX9_step 10 = .ok (.iconst 2, 1) := by decide +kernel
theorem dX9_step_11 : decode cX9_step 11 = .ok (.if_icmp .eq 21, 3) := by decide +kernel
theorem dX9_step_14 : decode cX9_step 14 = .ok (.iload_n 1, 1) := by decide +kernel
theorem dX9_step_15 : decode cX9_step 15 = .ok (.bipush 8, 2) := by decide +kernel
theorem dX9_step_17 : decode cX9_step 17 = .ok (.if_icmp .eq 15, 3) := by decide +kernel
theorem dX9_step_20 : decode cX9_step 20 = .ok (.iload_n 1, 1) := by decide +kernel
theorem dX9_step_21 : decode cX9_step 21 = .ok (.bipush 9, 2) := by decide +kernel
theorem dX9_step_23 : decode cX9_step 23 = .ok (.if_icmp .eq 9, 3) := by decide +kernel
theorem dX9_step_26 : decode cX9_step 26 = .ok (.iload_n 1, 1) := by decide +kernel
theorem dX9_step_27 : decode cX9_step 27 = .ok (.bipush 11, 2) := by decide +kernel
theorem dX9_step_29 : decode cX9_step 29 = .ok (.if_icmp .ne 7, 3) := by decide +kernel
theorem dX9_step_32 : decode cX9_step 32 = .ok (.iconst 0, 1) := by decide +kernel
theorem dX9_step_33 : decode cX9_step 33 = .ok (.goto 13, 3) := by decide +kernel
theorem dX9_step_36 : decode cX9_step 36 = .ok (.aload_n 0, 1) := by decide +kernel
theorem dX9_step_37 : decode cX9_step 37 = .ok (.aload_n 0, 1) := by decide +kernel
theorem dX9_step_38 : decode cX9_step 38 = .ok (.getfield 207, 3) := by decide +kernel
theorem dX9_step_41 : decode cX9_step 41 = .ok (.iconst 1, 1) := by decide +kernel
theorem dX9_step_42 : decode cX9_step 42 = .ok (.iadd, 1) := by decide +kernel
theorem dX9_step_43 : decode cX9_step 43 = .ok (.invokevirtual 213, 3) := by decide +kernel
theorem dX9_step_46 : decode cX9_step 46 = .ok (.istore_n 2, 1) := by decide +kernel
theorem dX9_step_47 : decode cX9_step 47 = .ok (.aload_n 0, 1) := by decide +kernel
theorem dX9_step_48 : decode cX9_step 48 = .ok (.dup, 1) := by decide +kernel
theorem dX9_step_49 : decode cX9_step 49 = .ok (.getfield 207, 3) := by decide +kernel
theorem dX9_step_52 : decode cX9_step 52 = .ok (.iload_n 1, 1) := by decide +kernel
theorem dX9_step_53 : decode cX9_step 53 = .ok (.iconst 2, 1) := by decide +kernel
theorem dX9_step_54 : decode cX9_step 54 = .ok (.if_icmp .eq 21, 3) := by decide +kernel
theorem dX9_step_57 : decode cX9_step 57 = .ok (.iload_n 1, 1) := by decide +kernel
theorem dX9_step_58 : decode cX9_step 58 = .ok (.bipush 8, 2) := by decide +kernel
theorem dX9_step_60 : decode cX9_step 60 = .ok (.if_icmp .eq 15, 3) := by decide +kernel
theorem dX9_step_63 : decode cX9_step 63 = .ok (.iload_n 1, 1) := by decide +kernel
theorem dX9_step_64 : decode cX9_step 64 = .ok (.bipush 9, 2) := by decide +kernel
theorem dX9_step_66 : decode cX9_step 66 = .ok (.if_icmp .eq 9, 3) := by decide +kernel
theorem dX9_step_69 : decode cX9_step 69 = .ok (.iload_n 1, 1) := by decide +kernel
theorem dX9_step_70 : decode cX9_step 70 = .ok (.bipush 11, 2) := by decide +kernel
theorem dX9_step_72 : decode cX9_step 72 = .ok (.if_icmp .ne 7, 3) := by decide +kernel
theorem dX9_step_75 : decode cX9_step 75 = .ok (.iconst 1, 1) := by decide +kernel
theorem dX9_step_76 : decode cX9_step 76 = .ok (.goto 19, 3) := by decide +kernel
theorem dX9_step_79 : decode cX9_step 79 = .ok (.iload_n 1, 1) := by decide +kernel
theorem dX9_step_80 : decode cX9_step 80 = .ok (.iconst 5, 1) := by decide +kernel
theorem dX9_step_81 : decode cX9_step 81 = .ok (.if_icmp .eq 9, 3) := by decide +kernel
theorem dX9_step_84 : decode cX9_step 84 = .ok (.iload_n 1, 1) := by decide +kernel
theorem dX9_step_85 : decode cX9_step 85 = .ok (.bipush 12, 2) := by decide +kernel
theorem dX9_step_87 : decode cX9_step 87 = .ok (.if_icmp .ne 7, 3) := by decide +kernel
theorem dX9_step_90 : decode cX9_step 90 = .ok (.iconst 3, 1) := by decide +kernel
theorem dX9_step_91 : decode cX9_step 91 = .ok (.goto 4, 3) := by decide +kernel
theorem dX9_step_94 : decode cX9_step 94 = .ok (.iconst 2, 1) := by decide +kernel
theorem dX9_step_95 : decode cX9_step 95 = .ok (.iadd, 1) := by decide +kernel
theorem dX9_step_96 : decode cX9_step 96 = .ok (.putfield 207, 3) := by decide +kernel
theorem dX9_step_99 : decode cX9_step 99 = .ok (.iload_n 1, 1) := by decide +kernel
theorem dX9_step_100 : decode cX9_step 100 = .ok (.tableswitch 313 0 11 #[64, 71, 87, 98, 110, 122, 154, 191, 217, 251, 261, 278], 64) := by decide +kernel
theorem dX9_step_164 : decode cX9_step 164 = .ok (.aload_n 0, 1) := by decide +kernel
theorem dX9_step_165 : decode cX9_step 165 = .ok (.iload_n 2, 1) := by decide +kernel
theorem dX9_step_166 : decode cX9_step 166 = .ok (.putfield 204, 3) := by decide +kernel
theorem dX9_step_169 : decode cX9_step 169 = .ok (.iconst 0, 1) := by decide +kernel
theorem dX9_step_170 : decode cX9_step 170 = .ok (.ireturn, 1) := by decide +kernel
theorem dX9_step_171 : decode cX9_step 171 = .ok (.aload_n 0, 1) := by decide +kernel
theorem dX9_step_172 : decode cX9_step 172 = .ok (.aload_n 0, 1) := by decide +kernel
theorem dX9_step_173 : decode cX9_step 173 = .ok (.getfield 204, 3) := by decide +kernel
theorem dX9_step_176 : decode cX9_step 176 = .ok (.iload_n 2, 1) := by decide +kernel
theorem dX9_step_177 : decode cX9_step 177 = .ok (.iadd, 1) := by decide +kernel
theorem dX9_step_178 : decode cX9_step 178 = .ok (.sipush 255, 3) := by decide +kernel
theorem dX9_step_181 : decode cX9_step 181 = .ok (.iand, 1) := by decide +kernel
theorem dX9_step_182 : decode cX9_step 182 = .ok (.putfield 204, 3) := by decide +kernel
theorem dX9_step_185 : decode cX9_step 185 = .ok (.iconst 0, 1) := by decide +kernel
theorem dX9_step_186 : decode cX9_step 186 = .ok (.ireturn, 1) := by decide +kernel
theorem dX9_step_187 : decode cX9_step 187 = .ok (.aload_n 0, 1) := by decide +kernel
theorem dX9_step_188 : decode cX9_step 188 = .ok (.iconst 0, 1) := by decide +kernel
theorem dX9_step_189 : decode cX9_step 189 = .ok (.aload_n 0, 1) := by decide +kernel
theorem dX9_step_190 : decode cX9_step 190 = .ok (.getfield 204, 3) := by decide +kernel
theorem dX9_step_193 : decode cX9_step 193 = .ok (.invokevirtual 216, 3) := by decide +kernel
theorem dX9_step_196 : decode cX9_step 196 = .ok (.iconst 0, 1) := by decide +kernel
theorem dX9_step_197 : decode cX9_step 197 = .ok (.ireturn, 1) := by decide +kernel
theorem dX9_step_198 : decode cX9_step 198 = .ok (.aload_n 0, 1) := by decide +kernel
theorem dX9_step_199 : decode cX9_step 199 = .ok (.aload_n 0, 1) := by decide +kernel
theorem dX9_step_200 : decode cX9_step 200 = .ok (.getfield 75, 3) := by decide +kernel
theorem dX9_step_203 : decode cX9_step 203 = .ok (.iload_n 2, 1) := by decide +kernel
theorem dX9_step_204 : decode cX9_step 204 = .ok (.iaload, 1) := by decide +kernel
theorem dX9_step_205 : decode cX9_step 205 = .ok (.putfield 204, 3) := by decide +kernel
theorem dX9_step_208 : decode cX9_step 208 = .ok (.iconst 0, 1) := by decide +kernel
theorem dX9_step_209 : decode cX9_step 209 = .ok (.ireturn, 1) := by decide +kernel
theorem dX9_step_210 : decode cX9_step 210 = .ok (.aload_n 0, 1) := by decide +kernel
theorem dX9_step_211 : decode cX9_step 211 = .ok (.getfield 75, 3) := by decide +kernel
theorem dX9_step_214 : decode cX9_step 214 = .ok (.iload_n 2, 1) := by decide +kernel
theorem dX9_step_215 : decode cX9_step 215 = .ok (.aload_n 0, 1) := by decide +kernel
theorem dX9_step_216 : decode cX9_step 216 = .ok (.getfield 204, 3) := by decide +kernel
theorem dX9_step_219 : decode cX9_step 219 = .ok (.iastore, 1) := by decide +kernel
theorem dX9_step_220 : decode cX9_step 220 = .ok (.iconst 0, 1) := by decide +kernel
theorem dX9_step_221 : decode cX9_step 221 = .ok (.ireturn, 1) := by decide +kernel
theorem dX9_step_222 : decode cX9_step 222 = .ok (.iload_n 2, 1) := by decide +kernel
theorem dX9_step_223 : decode cX9_step 223 = .ok (.sipush 256, 3) := by decide +kernel
theorem dX9_step_226 : decode cX9_step 226 = .ok (.aload_n 0, 1) := by decide +kernel
theorem dX9_step_227 : decode cX9_step 227 = .ok (.aload_n 0, 1) := by decide +kernel
theorem dX9_step_228 : decode cX9_step 228 = .ok (.getfield 207, 3) := by decide +kernel
theorem dX9_step_231 : decode cX9_step 231 = .ok (.iconst 1, 1) := by decide +kernel
theorem dX9_step_232 : decode cX9_step 232 = .ok (.isub, 1) := by decide +kernel
theorem dX9_step_233 : decode cX9_step 233 = .ok (.invokevirtual 213, 3) := by decide +kernel
theorem dX9_step_236 : decode cX9_step 236 = .ok (.imul, 1) := by decide +kernel
theorem dX9_step_237 : decode cX9_step 237 = .ok (.iadd, 1) := by decide +kernel
theorem dX9_step_238 : decode cX9_step 238 = .ok (.istore_n 3, 1) := by decide +kernel
theorem dX9_step_239 : decode cX9_step 239 = .ok (.aload_n 0, 1) := by decide +kernel
theorem dX9_step_240 : decode cX9_step 240 = .ok (.aload_n 0, 1) := by decide +kernel
theorem dX9_step_241 : decode cX9_step 241 = .ok (.getfield 207, 3) := by decide +kernel
theorem dX9_step_244 : decode cX9_step 244 = .ok (.invokevirtual 220, 3) := by decide +kernel
theorem dX9_step_247 : decode cX9_step 247 = .ok (.aload_n 0, 1) := by decide +kernel
theorem dX9_step_248 : decode cX9_step 248 = .ok (.iload_n 3, 1) := by decide +kernel
theorem dX9_step_249 : decode cX9_step 249 = .ok (.putfield 207, 3) := by decide +kernel
theorem dX9_step_252 : decode cX9_step 252 = .ok (.iconst 0, 1) := by decide +kernel
theorem dX9_step_253 : decode cX9_step 253 = .ok (.ireturn, 1) := by decide +kernel
theorem dX9_step_254 : decode cX9_step 254 = .ok (.aload_n 0, 1) := by decide +kernel
theorem dX9_step_255 : decode cX9_step 255 = .ok (.dup, 1) := by decide +kernel
theorem dX9_step_256 : decode cX9_step 256 = .ok (.getfield 207, 3) := by decide +kernel
theorem dX9_step_259 : decode cX9_step 259 = .ok (.aload_n 0, 1) := by decide +kernel
theorem dX9_step_260 : decode cX9_step 260 = .ok (.getfield 204, 3) := by decide +kernel
theorem dX9_step_263 : decode cX9_step 263 = .ok (.ifCond .ne 21, 3) := by decide +kernel
theorem dX9_step_266 : decode cX9_step 266 = .ok (.iload_n 2, 1) := by decide +kernel
theorem dX9_step_267 : decode cX9_step 267 = .ok (.bipush 127, 2) := by decide +kernel
theorem dX9_step_269 : decode cX9_step 269 = .ok (.if_icmp .le 11, 3) := by decide +kernel
theorem dX9_step_272 : decode cX9_step 272 = .ok (.iload_n 2, 1) := by decide +kernel
theorem dX9_step_273 : decode cX9_step 273 = .ok (.sipush 256, 3) := by decide +kernel
theorem dX9_step_276 : decode cX9_step 276 = .ok (.isub, 1) := by decide +kernel
theorem dX9_step_277 : decode cX9_step 277 = .ok (.goto 8, 3) := by decide +kernel
theorem dX9_step_280 : decode cX9_step 280 = .ok (.iload_n 2, 1) := by decide +kernel
theorem dX9_step_281 : decode cX9_step 281 = .ok (.goto 4, 3) := by decide +kernel
theorem dX9_step_284 : decode cX9_step 284 = .ok (.iconst 0, 1) := by decide +kernel
theorem dX9_step_285 : decode cX9_step 285 = .ok (.iadd, 1) := by decide +kernel
theorem dX9_step_286 : decode cX9_step 286 = .ok (.putfield 207, 3) := by decide +kernel
theorem dX9_step_289 : decode cX9_step 289 = .ok (.iconst 0, 1) := by decide +kernel
theorem dX9_step_290 : decode cX9_step 290 = .ok (.ireturn, 1) := by decide +kernel
theorem dX9_step_291 : decode cX9_step 291 = .ok (.aload_n 0, 1) := by decide +kernel
theorem dX9_step_292 : decode cX9_step 292 = .ok (.dup, 1) := by decide +kernel
theorem dX9_step_293 : decode cX9_step 293 = .ok (.getfield 207, 3) := by decide +kernel
theorem dX9_step_296 : decode cX9_step 296 = .ok (.iload_n 2, 1) := by decide +kernel
theorem dX9_step_297 : decode cX9_step 297 = .ok (.bipush 127, 2) := by decide +kernel
theorem dX9_step_299 : decode cX9_step 299 = .ok (.if_icmp .le 11, 3) := by decide +kernel
theorem dX9_step_302 : decode cX9_step 302 = .ok (.iload_n 2, 1) := by decide +kernel
theorem dX9_step_303 : decode cX9_step 303 = .ok (.sipush 256, 3) := by decide +kernel
theorem dX9_step_306 : decode cX9_step 306 = .ok (.isub, 1) := by decide +kernel
theorem dX9_step_307 : decode cX9_step 307 = .ok (.goto 4, 3) := by decide +kernel
theorem dX9_step_310 : decode cX9_step 310 = .ok (.iload_n 2, 1) := by decide +kernel
theorem dX9_step_311 : decode cX9_step 311 = .ok (.iadd, 1) := by decide +kernel
theorem dX9_step_312 : decode cX9_step 312 = .ok (.putfield 207, 3) := by decide +kernel
theorem dX9_step_315 : decode cX9_step 315 = .ok (.iconst 0, 1) := by decide +kernel
theorem dX9_step_316 : decode cX9_step 316 = .ok (.ireturn, 1) := by decide +kernel
theorem dX9_step_317 : decode cX9_step 317 = .ok (.aload_n 0, 1) := by decide +kernel
theorem dX9_step_318 : decode cX9_step 318 = .ok (.getfield 196, 3) := by decide +kernel
theorem dX9_step_321 : decode cX9_step 321 = .ok (.ifCond .ne 5, 3) := by decide +kernel
theorem dX9_step_324 : decode cX9_step 324 = .ok (.iconst 1, 1) := by decide +kernel
theorem dX9_step_325 : decode cX9_step 325 = .ok (.ireturn, 1) := by decide +kernel
theorem dX9_step_326 : decode cX9_step 326 = .ok (.aload_n 0, 1) := by decide +kernel
theorem dX9_step_327 : decode cX9_step 327 = .ok (.dup, 1) := by decide +kernel
theorem dX9_step_328 : decode cX9_step 328 = .ok (.getfield 196, 3) := by decide +kernel
theorem dX9_step_331 : decode cX9_step 331 = .ok (.iconst 1, 1) := by decide +kernel
theorem dX9_step_332 : decode cX9_step 332 = .ok (.isub, 1) := by decide +kernel
theorem dX9_step_333 : decode cX9_step 333 = .ok (.putfield 196, 3) := by decide +kernel
theorem dX9_step_336 : decode cX9_step 336 = .ok (.aload_n 0, 1) := by decide +kernel
theorem dX9_step_337 : decode cX9_step 337 = .ok (.aload_n 0, 1) := by decide +kernel
theorem dX9_step_338 : decode cX9_step 338 = .ok (.getfield 78, 3) := by decide +kernel
theorem dX9_step_341 : decode cX9_step 341 = .ok (.aload_n 0, 1) := by decide +kernel
theorem dX9_step_342 : decode cX9_step 342 = .ok (.getfield 196, 3) := by decide +kernel
theorem dX9_step_345 : decode cX9_step 345 = .ok (.iaload, 1) := by decide +kernel
theorem dX9_step_346 : decode cX9_step 346 = .ok (.putfield 207, 3) := by decide +kernel
theorem dX9_step_349 : decode cX9_step 349 = .ok (.iconst 0, 1) := by decide +kernel
theorem dX9_step_350 : decode cX9_step 350 = .ok (.ireturn, 1) := by decide +kernel
theorem dX9_step_351 : decode cX9_step 351 = .ok (.aload_n 0, 1) := by decide +kernel
theorem dX9_step_352 : decode cX9_step 352 = .ok (.aload_n 0, 1) := by decide +kernel
theorem dX9_step_353 : decode cX9_step 353 = .ok (.getfield 193, 3) := by decide +kernel
theorem dX9_step_356 : decode cX9_step 356 = .ok (.invokevirtual 220, 3) := by decide +kernel
theorem dX9_step_359 : decode cX9_step 359 = .ok (.iconst 0, 1) := by decide +kernel
theorem dX9_step_360 : decode cX9_step 360 = .ok (.ireturn, 1) := by decide +kernel
theorem dX9_step_361 : decode cX9_step 361 = .ok (.aload_n 0, 1) := by decide +kernel
theorem dX9_step_362 : decode cX9_step 362 = .ok (.iload_n 2, 1) := by decide +kernel
theorem dX9_step_363 : decode cX9_step 363 = .ok (.putfield 193, 3) := by decide +kernel
theorem dX9_step_366 : decode cX9_step 366 = .ok (.aload_n 0, 1) := by decide +kernel
theorem dX9_step_367 : decode cX9_step 367 = .ok (.getfield 69, 3) := by decide +kernel
theorem dX9_step_370 : decode cX9_step 370 = .ok (.iconst 4, 1) := by decide +kernel
theorem dX9_step_371 : decode cX9_step 371 = .ok (.dup2, 1) := by decide +kernel
theorem dX9_step_372 : decode cX9_step 372 = .ok (.iaload, 1) := by decide +kernel
theorem dX9_step_373 : decode cX9_step 373 = .ok (.iconst 1, 1) := by decide +kernel
theorem dX9_step_374 : decode cX9_step 374 = .ok (.iadd, 1) := by decide +kernel
theorem dX9_step_375 : decode cX9_step 375 = .ok (.iastore, 1) := by decide +kernel
theorem dX9_step_376 : decode cX9_step 376 = .ok (.iconst 0, 1) := by decide +kernel
theorem dX9_step_377 : decode cX9_step 377 = .ok (.ireturn, 1) := by decide +kernel
theorem dX9_step_378 : decode cX9_step 378 = .ok (.aload_n 0, 1) := by decide +kernel
theorem dX9_step_379 : decode cX9_step 379 = .ok (.dup, 1) := by decide +kernel
theorem dX9_step_380 : decode cX9_step 380 = .ok (.getfield 196, 3) := by decide +kernel
theorem dX9_step_383 : decode cX9_step 383 = .ok (.iconst 1, 1) := by decide +kernel
theorem dX9_step_384 : decode cX9_step 384 = .ok (.isub, 1) := by decide +kernel
theorem dX9_step_385 : decode cX9_step 385 = .ok (.putfield 196, 3) := by decide +kernel
theorem dX9_step_388 : decode cX9_step 388 = .ok (.aload_n 0, 1) := by decide +kernel
theorem dX9_step_389 : decode cX9_step 389 = .ok (.aload_n 0, 1) := by decide +kernel
theorem dX9_step_390 : decode cX9_step 390 = .ok (.getfield 78, 3) := by decide +kernel
theorem dX9_step_393 : decode cX9_step 393 = .ok (.aload_n 0, 1) := by decide +kernel
theorem dX9_step_394 : decode cX9_step 394 = .ok (.getfield 196, 3) := by decide +kernel
theorem dX9_step_397 : decode cX9_step 397 = .ok (.iaload, 1) := by decide +kernel
theorem dX9_step_398 : decode cX9_step 398 = .ok (.putfield 193, 3) := by decide +kernel
theorem dX9_step_401 : decode cX9_step 401 = .ok (.aload_n 0, 1) := by decide +kernel
theorem dX9_step_402 : decode cX9_step 402 = .ok (.getfield 69, 3) := by decide +kernel
theorem dX9_step_405 : decode cX9_step 405 = .ok (.iconst 4, 1) := by decide +kernel
theorem dX9_step_406 : decode cX9_step 406 = .ok (.dup2, 1) := by decide +kernel
theorem dX9_step_407 : decode cX9_step 407 = .ok (.iaload, 1) := by decide +kernel
theorem dX9_step_408 : decode cX9_step 408 = .ok (.iconst 1, 1) := by decide +kernel
theorem dX9_step_409 : decode cX9_step 409 = .ok (.iadd, 1) := by decide +kernel
theorem dX9_step_410 : decode cX9_step 410 = .ok (.iastore, 1) := by decide +kernel
theorem dX9_step_411 : decode cX9_step 411 = .ok (.iconst 0, 1) := by decide +kernel
theorem dX9_step_412 : decode cX9_step 412 = .ok (.ireturn, 1) := by decide +kernel
theorem dX9_step_413 : decode cX9_step 413 = .ok (.iconst 0, 1) := by decide +kernel
theorem dX9_step_414 : decode cX9_step 414 = .ok (.istore 4, 2) := by decide +kernel
theorem dX9_step_416 : decode cX9_step 416 = .ok (.iload 4, 2) := by decide +kernel
theorem dX9_step_418 : decode cX9_step 418 = .ok (.aload_n 0, 1) := by decide +kernel
theorem dX9_step_419 : decode cX9_step 419 = .ok (.aload_n 0, 1) := by decide +kernel
theorem dX9_step_420 : decode cX9_step 420 = .ok (.getfield 207, 3) := by decide +kernel
theorem dX9_step_423 : decode cX9_step 423 = .ok (.iconst 1, 1) := by decide +kernel
theorem dX9_step_424 : decode cX9_step 424 = .ok (.isub, 1) := by decide +kernel
theorem dX9_step_425 : decode cX9_step 425 = .ok (.invokevirtual 213, 3) := by decide +kernel
theorem dX9_step_428 : decode cX9_step 428 = .ok (.if_icmp .ge 19, 3) := by decide +kernel
theorem dX9_step_431 : decode cX9_step 431 = .ok (.aload_n 0, 1) := by decide +kernel
theorem dX9_step_432 : decode cX9_step 432 = .ok (.getfield 75, 3) := by decide +kernel
theorem dX9_step_435 : decode cX9_step 435 = .ok (.iload_n 2, 1) := by decide +kernel
theorem dX9_step_436 : decode cX9_step 436 = .ok (.iload 4, 2) := by decide +kernel
theorem dX9_step_438 : decode cX9_step 438 = .ok (.iadd, 1) := by decide +kernel
theorem dX9_step_439 : decode cX9_step 439 = .ok (.iconst 0, 1) := by decide +kernel
theorem dX9_step_440 : decode cX9_step 440 = .ok (.iastore, 1) := by decide +kernel
theorem dX9_step_441 : decode cX9_step 441 = .ok (.iinc 4 1, 3) := by decide +kernel
theorem dX9_step_444 : decode cX9_step 444 = .ok (.goto (-28), 3) := by decide +kernel
theorem dX9_step_447 : decode cX9_step 447 = .ok (.iconst 0, 1) := by decide +kernel
theorem dX9_step_448 : decode cX9_step 448 = .ok (.ireturn, 1) := by decide +kernel
theorem dX9_run_0 : decode cX9_run 0 = .ok (.aload_n 0, 1) := by decide +kernel
theorem dX9_run_1 : decode cX9_run 1 = .ok (.iconst 0, 1) := by decide +kernel
theorem dX9_run_2 : decode cX9_run 2 = .ok (.putfield 1, 3) := by decide +kernel
theorem dX9_run_5 : decode cX9_run 5 = .ok (.aload_n 0, 1) := by decide +kernel
theorem dX9_run_6 : decode cX9_run 6 = .ok (.iload_n 1, 1) := by decide +kernel
theorem dX9_run_7 : decode cX9_run 7 = .ok (.invokevirtual 108, 3) := by decide +kernel
theorem dX9_run_10 : decode cX9_run 10 = .ok (.ifCond .eq 27, 3) := by decide +kernel
theorem dX9_run_13 : decode cX9_run 13 = .ok (.iload_n 2, 1) := by decide +kernel
theorem dX9_run_14 : decode cX9_run 14 = .ok (.i2l, 1) := by decide +kernel
theorem dX9_run_15 : decode cX9_run 15 = .ok (.lconst 0, 1) := by decide +kernel
theorem dX9_run_16 : decode cX9_run 16 = .ok (.ldc2_w 106, 3) := by decide +kernel
theorem dX9_run_19 : decode cX9_run 19 = .ok (.invokestatic 93, 3) := by decide +kernel
theorem dX9_run_22 : decode cX9_run 22 = .ok (.ifCond .eq 15, 3) := by decide +kernel
theorem dX9_run_25 : decode cX9_run 25 = .ok (.iload_n 3, 1) := by decide +kernel
theorem dX9_run_26 : decode cX9_run 26 = .ok (.i2l, 1) := by decide +kernel
theorem dX9_run_27 : decode cX9_run 27 = .ok (.lconst 1, 1) := by decide +kernel
theorem dX9_run_28 : decode cX9_run 28 = .ok (.ldc2_w 199, 3) := by decide +kernel
theorem dX9_run_31 : decode cX9_run 31 = .ok (.invokestatic 93, 3) := by decide +kernel
theorem dX9_run_34 : decode cX9_run 34 = .ok (.ifCond .ne 6, 3) := by decide +kernel
theorem dX9_run_37 : decode cX9_run 37 = .ok (.bipush (-2), 2) := by decide +kernel
theorem dX9_run_39 : decode cX9_run 39 = .ok (.ireturn, 1) := by decide +kernel
theorem dX9_run_40 : decode cX9_run 40 = .ok (.aload_n 0, 1) := by decide +kernel
theorem dX9_run_41 : decode cX9_run 41 = .ok (.getfield 100, 3) := by decide +kernel
theorem dX9_run_44 : decode cX9_run 44 = .ok (.ifCond .ne 6, 3) := by decide +kernel
theorem dX9_run_47 : decode cX9_run 47 = .ok (.bipush (-3), 2) := by decide +kernel
theorem dX9_run_49 : decode cX9_run 49 = .ok (.ireturn, 1) := by decide +kernel
theorem dX9_run_50 : decode cX9_run 50 = .ok (.aload_n 0, 1) := by decide +kernel
theorem dX9_run_51 : decode cX9_run 51 = .ok (.iconst 0, 1) := by decide +kernel
theorem dX9_run_52 : decode cX9_run 52 = .ok (.invokevirtual 201, 3) := by decide +kernel
theorem dX9_run_55 : decode cX9_run 55 = .ok (.iconst 0, 1) := by decide +kernel
theorem dX9_run_56 : decode cX9_run 56 = .ok (.istore 4, 2) := by decide +kernel
theorem dX9_run_58 : decode cX9_run 58 = .ok (.iload 4, 2) := by decide +kernel
theorem dX9_run_60 : decode cX9_run 60 = .ok (.sipush 256, 3) := by decide +kernel
theorem dX9_run_63 : decode cX9_run 63 = .ok (.if_icmp .ge 17, 3) := by decide +kernel
theorem dX9_run_66 : decode cX9_run 66 = .ok (.aload_n 0, 1) := by decide +kernel
theorem dX9_run_67 : decode cX9_run 67 = .ok (.getfield 75, 3) := by decide +kernel
theorem dX9_run_70 : decode cX9_run 70 = .ok (.iload 4, 2) := by decide +kernel
theorem dX9_run_72 : decode cX9_run 72 = .ok (.iconst 0, 1) := by decide +kernel
theorem dX9_run_73 : decode cX9_run 73 = .ok (.iastore, 1) := by decide +kernel
theorem dX9_run_74 : decode cX9_run 74 = .ok (.iinc 4 1, 3) := by decide +kernel
theorem dX9_run_77 : decode cX9_run 77 = .ok (.goto (-19), 3) := by decide +kernel
theorem dX9_run_80 : decode cX9_run 80 = .ok (.aload_n 0, 1) := by decide +kernel
theorem dX9_run_81 : decode cX9_run 81 = .ok (.iload_n 2, 1) := by decide +kernel
theorem dX9_run_82 : decode cX9_run 82 = .ok (.putfield 204, 3) := by decide +kernel
theorem dX9_run_85 : decode cX9_run 85 = .ok (.aload_n 0, 1) := by decide +kernel
theorem dX9_run_86 : decode cX9_run 86 = .ok (.aload_n 0, 1) := by decide +kernel
theorem dX9_run_87 : decode cX9_run 87 = .ok (.iload_n 1, 1) := by decide +kernel
theorem dX9_run_88 : decode cX9_run 88 = .ok (.invokevirtual 141, 3) := by decide +kernel
theorem dX9_run_91 : decode cX9_run 91 = .ok (.ifCond .eq 7, 3) := by decide +kernel
theorem dX9_run_94 : decode cX9_run 94 = .ok (.iconst 0, 1) := by decide +kernel
theorem dX9_run_95 : decode cX9_run 95 = .ok (.goto 14, 3) := by decide +kernel
theorem dX9_run_98 : decode cX9_run 98 = .ok (.aload_n 0, 1) := by decide +kernel
theorem dX9_run_99 : decode cX9_run 99 = .ok (.getfield 35, 3) := by decide +kernel
theorem dX9_run_102 : decode cX9_run 102 = .ok (.aload_n 0, 1) := by decide +kernel
theorem dX9_run_103 : decode cX9_run 103 = .ok (.getfield 17, 3) := by decide +kernel
theorem dX9_run_106 : decode cX9_run 106 = .ok (.iload_n 1, 1) := by decide +kernel
theorem dX9_run_107 : decode cX9_run 107 = .ok (.iaload, 1) := by decide +kernel
theorem dX9_run_108 : decode cX9_run 108 = .ok (.iaload, 1) := by decide +kernel
theorem dX9_run_109 : decode cX9_run 109 = .ok (.putfield 193, 3) := by decide +kernel
theorem dX9_run_112 : decode cX9_run 112 = .ok (.aload_n 0, 1) := by decide +kernel
theorem dX9_run_113 : decode cX9_run 113 = .ok (.aload_n 0, 1) := by decide +kernel
theorem dX9_run_114 : decode cX9_run 114 = .ok (.getfield 41, 3) := by decide +kernel
theorem dX9_run_117 : decode cX9_run 117 = .ok (.iload_n 1, 1) := by decide +kernel
theorem dX9_run_118 : decode cX9_run 118 = .ok (.iaload, 1) := by decide +kernel
theorem dX9_run_119 : decode cX9_run 119 = .ok (.putfield 207, 3) := by decide +kernel
theorem dX9_run_122 : decode cX9_run 122 = .ok (.iconst 0, 1) := by decide +kernel
theorem dX9_run_123 : decode cX9_run 123 = .ok (.istore 4, 2) := by decide +kernel
theorem dX9_run_125 : decode cX9_run 125 = .ok (.iload 4, 2) := by decide +kernel
theorem dX9_run_127 : decode cX9_run 127 = .ok (.ifCond .ne 32, 3) := by decide +kernel
theorem dX9_run_130 : decode cX9_run 130 = .ok (.aload_n 0, 1) := by decide +kernel
theorem dX9_run_131 : decode cX9_run 131 = .ok (.getfield 69, 3) := by decide +kernel
theorem dX9_run_134 : decode cX9_run 134 = .ok (.iconst 0, 1) := by decide +kernel
theorem dX9_run_135 : decode cX9_run 135 = .ok (.iaload, 1) := by decide +kernel
theorem dX9_run_136 : decode cX9_run 136 = .ok (.iload_n 3, 1) := by decide +kernel
theorem dX9_run_137 : decode cX9_run 137 = .ok (.if_icmp .ge 22, 3) := by decide +kernel
theorem dX9_run_140 : decode cX9_run 140 = .ok (.aload_n 0, 1) := by decide +kernel
theorem dX9_run_141 : decode cX9_run 141 = .ok (.getfield 69, 3) := by decide +kernel
theorem dX9_run_144 : decode cX9_run 144 = .ok (.iconst 0, 1) := by decide +kernel
theorem dX9_run_145 : decode cX9_run 145 = .ok (.dup2, 1) := by decide +kernel
theorem dX9_run_146 : decode cX9_run 146 = .ok (.iaload, 1) := by decide +kernel
theorem dX9_run_147 : decode cX9_run 147 = .ok (.iconst 1, 1) := by decide +kernel
theorem dX9_run_148 : decode cX9_run 148 = .ok (.iadd, 1) := by decide +kernel
theorem dX9_run_149 : decode cX9_run 149 = .ok (.iastore, 1) := by decide +kernel
theorem dX9_run_150 : decode cX9_run 150 = .ok (.aload_n 0, 1) := by decide +kernel
theorem dX9_run_151 : decode cX9_run 151 = .ok (.invokevirtual 210, 3) := by decide +kernel
theorem dX9_run_154 : decode cX9_run 154 = .ok (.istore 4, 2) := by decide +kernel
theorem dX9_run_156 : decode cX9_run 156 = .ok (.goto (-31), 3) := by decide +kernel
theorem dX9_run_159 : decode cX9_run 159 = .ok (.aload_n 0, 1) := by decide +kernel
theorem dX9_run_160 : decode cX9_run 160 = .ok (.getfield 69, 3) := by decide +kernel
theorem dX9_run_163 : decode cX9_run 163 = .ok (.iconst 1, 1) := by decide +kernel
theorem dX9_run_164 : decode cX9_run 164 = .ok (.aload_n 0, 1) := by decide +kernel
theorem dX9_run_165 : decode cX9_run 165 = .ok (.getfield 204, 3) := by decide +kernel
theorem dX9_run_168 : decode cX9_run 168 = .ok (.iastore, 1) := by decide +kernel
theorem dX9_run_169 : decode cX9_run 169 = .ok (.iload 4, 2) := by decide +kernel
theorem dX9_run_171 : decode cX9_run 171 = .ok (.ifCond .eq 7, 3) := by decide +kernel
theorem dX9_run_174 : decode cX9_run 174 = .ok (.iconst 1, 1) := by decide +kernel
theorem dX9_run_175 : decode cX9_run 175 = .ok (.goto 5, 3) := by decide +kernel
theorem dX9_run_178 : decode cX9_run 178 = .ok (.bipush (-5), 2) := by decide +kernel
theorem dX9_run_180 : decode cX9_run 180 = .ok (.ireturn, 1) := by decide +kernel
theorem dX9_enter_0 : decode cX9_enter 0 = .ok (.aload_n 0, 1) := by decide +kernel
theorem dX9_enter_1 : decode cX9_enter 1 = .ok (.getfield 81, 3) := by decide +kernel
theorem dX9_enter_4 : decode cX9_enter 4 = .ok (.aload_n 0, 1) := by decide +kernel
theorem dX9_enter_5 : decode cX9_enter 5 = .ok (.getfield 196, 3) := by decide +kernel
theorem dX9_enter_8 : decode cX9_enter 8 = .ok (.iload_n 1, 1) := by decide +kernel
theorem dX9_enter_9 : decode cX9_enter 9 = .ok (.iastore, 1) := by decide +kernel
theorem dX9_enter_10 : decode cX9_enter 10 = .ok (.aload_n 0, 1) := by decide +kernel
theorem dX9_enter_11 : decode cX9_enter 11 = .ok (.getfield 84, 3) := by decide +kernel
theorem dX9_enter_14 : decode cX9_enter 14 = .ok (.aload_n 0, 1) := by decide +kernel
theorem dX9_enter_15 : decode cX9_enter 15 = .ok (.getfield 196, 3) := by decide +kernel
theorem dX9_enter_18 : decode cX9_enter 18 = .ok (.iconst 0, 1) := by decide +kernel
theorem dX9_enter_19 : decode cX9_enter 19 = .ok (.iastore, 1) := by decide +kernel
theorem dX9_enter_20 : decode cX9_enter 20 = .ok (.iconst 0, 1) := by decide +kernel
theorem dX9_enter_21 : decode cX9_enter 21 = .ok (.istore_n 2, 1) := by decide +kernel
theorem dX9_enter_22 : decode cX9_enter 22 = .ok (.iload_n 2, 1) := by decide +kernel
theorem dX9_enter_23 : decode cX9_enter 23 = .ok (.bipush 9, 2) := by decide +kernel
theorem dX9_enter_25 : decode cX9_enter 25 = .ok (.if_icmp .ge 24, 3) := by decide +kernel
theorem dX9_enter_28 : decode cX9_enter 28 = .ok (.aload_n 0, 1) := by decide +kernel
theorem dX9_enter_29 : decode cX9_enter 29 = .ok (.getfield 87, 3) := by decide +kernel
theorem dX9_enter_32 : decode cX9_enter 32 = .ok (.bipush 9, 2) := by decide +kernel
theorem dX9_enter_34 : decode cX9_enter 34 = .ok (.aload_n 0, 1) := by decide +kernel
theorem dX9_enter_35 : decode cX9_enter 35 = .ok (.getfield 196, 3) := by decide +kernel
theorem dX9_enter_38 : decode cX9_enter 38 = .ok (.imul, 1) := by decide +kernel
theorem dX9_enter_39 : decode cX9_enter 39 = .ok (.iload_n 2, 1) := by decide +kernel
theorem dX9_enter_40 : decode cX9_enter 40 = .ok (.iadd, 1) := by decide +kernel
theorem dX9_enter_41 : decode cX9_enter 41 = .ok (.iconst 0, 1) := by decide +kernel
theorem dX9_enter_42 : decode cX9_enter 42 = .ok (.iastore, 1) := by decide +kernel
theorem dX9_enter_43 : decode cX9_enter 43 = .ok (.iinc 2 1, 3) := by decide +kernel
theorem dX9_enter_46 : decode cX9_enter 46 = .ok (.goto (-24), 3) := by decide +kernel
theorem dX9_enter_49 : decode cX9_enter 49 = .ok (.aload_n 0, 1) := by decide +kernel
theorem dX9_enter_50 : decode cX9_enter 50 = .ok (.dup, 1) := by decide +kernel
theorem dX9_enter_51 : decode cX9_enter 51 = .ok (.getfield 196, 3) := by decide +kernel
theorem dX9_enter_54 : decode cX9_enter 54 = .ok (.iconst 1, 1) := by decide +kernel
theorem dX9_enter_55 : decode cX9_enter 55 = .ok (.iadd, 1) := by decide +kernel
theorem dX9_enter_56 : decode cX9_enter 56 = .ok (.putfield 196, 3) := by decide +kernel
theorem dX9_enter_59 : decode cX9_enter 59 = .ok (.aload_n 0, 1) := by decide +kernel
theorem dX9_enter_60 : decode cX9_enter 60 = .ok (.getfield 69, 3) := by decide +kernel
theorem dX9_enter_63 : decode cX9_enter 63 = .ok (.bipush 8, 2) := by decide +kernel
theorem dX9_enter_65 : decode cX9_enter 65 = .ok (.aload_n 0, 1) := by decide +kernel
theorem dX9_enter_66 : decode cX9_enter 66 = .ok (.getfield 196, 3) := by decide +kernel
theorem dX9_enter_69 : decode cX9_enter 69 = .ok (.iconst 1, 1) := by decide +kernel
theorem dX9_enter_70 : decode cX9_enter 70 = .ok (.isub, 1) := by decide +kernel
theorem dX9_enter_71 : decode cX9_enter 71 = .ok (.aload_n 0, 1) := by decide +kernel
theorem dX9_enter_72 : decode cX9_enter 72 = .ok (.getfield 69, 3) := by decide +kernel
theorem dX9_enter_75 : decode cX9_enter 75 = .ok (.bipush 8, 2) := by decide +kernel
theorem dX9_enter_77 : decode cX9_enter 77 = .ok (.iaload, 1) := by decide +kernel
theorem dX9_enter_78 : decode cX9_enter 78 = .ok (.if_icmp .le 12, 3) := by decide +kernel
theorem dX9_enter_81 : decode cX9_enter 81 = .ok (.aload_n 0, 1) := by decide +kernel
theorem dX9_enter_82 : decode cX9_enter 82 = .ok (.getfield 196, 3) := by decide +kernel
theorem dX9_enter_85 : decode cX9_enter 85 = .ok (.iconst 1, 1) := by decide +kernel
theorem dX9_enter_86 : decode cX9_enter 86 = .ok (.isub, 1) := by decide +kernel
theorem dX9_enter_87 : decode cX9_enter 87 = .ok (.goto 10, 3) := by decide +kernel
theorem dX9_enter_90 : decode cX9_enter 90 = .ok (.aload_n 0, 1) := by decide +kernel
theorem dX9_enter_91 : decode cX9_enter 91 = .ok (.getfield 69, 3) := by decide +kernel
theorem dX9_enter_94 : decode cX9_enter 94 = .ok (.bipush 8, 2) := by decide +kernel
theorem dX9_enter_96 : decode cX9_enter 96 = .ok (.iaload, 1) := by decide +kernel
theorem dX9_enter_97 : decode cX9_enter 97 = .ok (.iastore, 1) := by decide +kernel
theorem dX9_enter_98 : decode cX9_enter 98 = .ok (.return_, 1) := by decide +kernel
theorem dX9_flatStep_0 : decode cX9_flatStep 0 = .ok (.aload_n 0, 1) := by decide +kernel
theorem dX9_flatStep_1 : decode cX9_flatStep 1 = .ok (.getfield 196, 3) := by decide +kernel
theorem dX9_flatStep_4 : decode cX9_flatStep 4 = .ok (.iconst 1, 1) := by decide +kernel
theorem dX9_flatStep_5 : decode cX9_flatStep 5 = .ok (.isub, 1) := by decide +kernel
theorem dX9_flatStep_6 : decode cX9_flatStep 6 = .ok (.istore_n 1, 1) := by decide +kernel
theorem dX9_flatStep_7 : decode cX9_flatStep 7 = .ok (.aload_n 0, 1) := by decide +kernel
theorem dX9_flatStep_8 : decode cX9_flatStep 8 = .ok (.getfield 81, 3) := by decide +kernel
theorem dX9_flatStep_11 : decode cX9_flatStep 11 = .ok (.iload_n 1, 1) := by decide +kernel
theorem dX9_flatStep_12 : decode cX9_flatStep 12 = .ok (.iaload, 1) := by decide +kernel
theorem dX9_flatStep_13 : decode cX9_flatStep 13 = .ok (.istore_n 2, 1) := by decide +kernel
theorem dX9_flatStep_14 : decode cX9_flatStep 14 = .ok (.aload_n 0, 1) := by decide +kernel
theorem dX9_flatStep_15 : decode cX9_flatStep 15 = .ok (.getfield 84, 3) := by decide +kernel
theorem dX9_flatStep_18 : decode cX9_flatStep 18 = .ok (.iload_n 1, 1) := by decide +kernel
theorem dX9_flatStep_19 : decode cX9_flatStep 19 = .ok (.iaload, 1) := by decide +kernel
theorem dX9_flatStep_20 : decode cX9_flatStep 20 = .ok (.istore_n 3, 1) := by decide +kernel
theorem dX9_flatStep_21 : decode cX9_flatStep 21 = .ok (.iload_n 3, 1) := by decide +kernel
theorem dX9_flatStep_22 : decode cX9_flatStep 22 = .ok (.aload_n 0, 1) := by decide +kernel
theorem dX9_flatStep_23 : decode cX9_flatStep 23 = .ok (.getfield 23, 3) := by decide +kernel
theorem dX9_flatStep_26 : decode cX9_flatStep 26 = .ok (.iload_n 2, 1) := by decide +kernel
theorem dX9_flatStep_27 : decode cX9_flatStep 27 = .ok (.iaload, 1) := by decide +kernel
theorem dX9_flatStep_28 : decode cX9_flatStep 28 = .ok (.if_icmp .ge 17, 3) := by decide +kernel
theorem dX9_flatStep_31 : decode cX9_flatStep 31 = .ok (.aload_n 0, 1) := by decide +kernel
theorem dX9_flatStep_32 : decode cX9_flatStep 32 = .ok (.getfield 26, 3) := by decide +kernel
theorem dX9_flatStep_35 : decode cX9_flatStep 35 = .ok (.bipush 40, 2) := by decide +kernel
theorem dX9_flatStep_37 : decode cX9_flatStep 37 = .ok (.iload_n 2, 1) := by decide +kernel
theorem dX9_flatStep_38 : decode cX9_flatStep 38 = .ok (.imul, 1) := by decide +kernel
theorem dX9_flatStep_39 : decode cX9_flatStep 39 = .ok (.iload_n 3, 1) := by decide +kernel
theorem dX9_flatStep_40 : decode cX9_flatStep 40 = .ok (.iadd, 1) := by decide +kernel
theorem dX9_flatStep_41 : decode cX9_flatStep 41 = .ok (.iaload, 1) := by decide +kernel
theorem dX9_flatStep_42 : decode cX9_flatStep 42 = .ok (.goto 5, 3) := by decide +kernel
theorem dX9_flatStep_45 : decode cX9_flatStep 45 = .ok (.bipush 8, 2) := by decide +kernel
theorem dX9_flatStep_47 : decode cX9_flatStep 47 = .ok (.istore 4, 2) := by decide +kernel
theorem dX9_flatStep_49 : decode cX9_flatStep 49 = .ok (.iload_n 3, 1) := by decide +kernel
theorem dX9_flatStep_50 : decode cX9_flatStep 50 = .ok (.aload_n 0, 1) := by decide +kernel
theorem dX9_flatStep_51 : decode cX9_flatStep 51 = .ok (.getfield 23, 3) := by decide +kernel
theorem dX9_flatStep_54 : decode cX9_flatStep 54 = .ok (.iload_n 2, 1) := by decide +kernel
theorem dX9_flatStep_55 : decode cX9_flatStep 55 = .ok (.iaload, 1) := by decide +kernel
theorem dX9_flatStep_56 : decode cX9_flatStep 56 = .ok (.if_icmp .ge 17, 3) := by decide +kernel
theorem dX9_flatStep_59 : decode cX9_flatStep 59 = .ok (.aload_n 0, 1) := by decide +kernel
theorem dX9_flatStep_60 : decode cX9_flatStep 60 = .ok (.getfield 29, 3) := by decide +kernel
theorem dX9_flatStep_63 : decode cX9_flatStep 63 = .ok (.bipush 40, 2) := by decide +kernel
theorem dX9_flatStep_65 : decode cX9_flatStep 65 = .ok (.iload_n 2, 1) := by decide +kernel
theorem dX9_flatStep_66 : decode cX9_flatStep 66 = .ok (.imul, 1) := by decide +kernel
theorem dX9_flatStep_67 : decode cX9_flatStep 67 = .ok (.iload_n 3, 1) := by decide +kernel
theorem dX9_flatStep_68 : decode cX9_flatStep 68 = .ok (.iadd, 1) := by decide +kernel
theorem dX9_flatStep_69 : decode cX9_flatStep 69 = .ok (.iaload, 1) := by decide +kernel
theorem dX9_flatStep_70 : decode cX9_flatStep 70 = .ok (.goto 4, 3) := by decide +kernel
theorem dX9_flatStep_73 : decode cX9_flatStep 73 = .ok (.iconst 0, 1) := by decide +kernel
theorem dX9_flatStep_74 : decode cX9_flatStep 74 = .ok (.istore 5, 2) := by decide +kernel
theorem dX9_flatStep_76 : decode cX9_flatStep 76 = .ok (.aload_n 0, 1) := by decide +kernel
theorem dX9_flatStep_77 : decode cX9_flatStep 77 = .ok (.getfield 84, 3) := by decide +kernel
theorem dX9_flatStep_80 : decode cX9_flatStep 80 = .ok (.iload_n 1, 1) := by decide +kernel
theorem dX9_flatStep_81 : decode cX9_flatStep 81 = .ok (.dup2, 1) := by decide +kernel
theorem dX9_flatStep_82 : decode cX9_flatStep 82 = .ok (.iaload, 1) := by decide +kernel
theorem dX9_flatStep_83 : decode cX9_flatStep 83 = .ok (.iconst 1, 1) := by decide +kernel
theorem dX9_flatStep_84 : decode cX9_flatStep 84 = .ok (.iadd, 1) := by decide +kernel
theorem dX9_flatStep_85 : decode cX9_flatStep 85 = .ok (.iastore, 1) := by decide +kernel
theorem dX9_flatStep_86 : decode cX9_flatStep 86 = .ok (.iload 4, 2) := by decide +kernel
theorem dX9_flatStep_88 : decode cX9_flatStep 88 = .ok (.tableswitch 180 0 7 #[48, 56, 73, 84, 102, 120, 139, 139], 48) := by decide +kernel
theorem dX9_flatStep_136 : decode cX9_flatStep 136 = .ok (.aload_n 0, 1) := by decide +kernel
theorem dX9_flatStep_137 : decode cX9_flatStep 137 = .ok (.iload 5, 2) := by decide +kernel
theorem dX9_flatStep_139 : decode cX9_flatStep 139 = .ok (.putfield 204, 3) := by decide +kernel
theorem dX9_flatStep_142 : decode cX9_flatStep 142 = .ok (.iconst 1, 1) := by decide +kernel
theorem dX9_flatStep_143 : decode cX9_flatStep 143 = .ok (.ireturn, 1) := by decide +kernel
theorem dX9_flatStep_144 : decode cX9_flatStep 144 = .ok (.aload_n 0, 1) := by decide +kernel
theorem dX9_flatStep_145 : decode cX9_flatStep 145 = .ok (.aload_n 0, 1) := by decide +kernel
theorem dX9_flatStep_146 : decode cX9_flatStep 146 = .ok (.getfield 204, 3) := by decide +kernel
theorem dX9_flatStep_149 : decode cX9_flatStep 149 = .ok (.iload 5, 2) := by decide +kernel
theorem dX9_flatStep_151 : decode cX9_flatStep 151 = .ok (.iadd, 1) := by decide +kernel
theorem dX9_flatStep_152 : decode cX9_flatStep 152 = .ok (.sipush 255, 3) := by decide +kernel
theorem dX9_flatStep_155 : decode cX9_flatStep 155 = .ok (.iand, 1) := by decide +kernel
theorem dX9_flatStep_156 : decode cX9_flatStep 156 = .ok (.putfield 204, 3) := by decide +kernel
theorem dX9_flatStep_159 : decode cX9_flatStep 159 = .ok (.iconst 1, 1) := by decide +kernel
theorem dX9_flatStep_160 : decode cX9_flatStep 160 = .ok (.ireturn, 1) := by decide +kernel
theorem dX9_flatStep_161 : decode cX9_flatStep 161 = .ok (.aload_n 0, 1) := by decide +kernel
theorem dX9_flatStep_162 : decode cX9_flatStep 162 = .ok (.iconst 1, 1) := by decide +kernel
theorem dX9_flatStep_163 : decode cX9_flatStep 163 = .ok (.aload_n 0, 1) := by decide +kernel
theorem dX9_flatStep_164 : decode cX9_flatStep 164 = .ok (.getfield 204, 3) := by decide +kernel
theorem dX9_flatStep_167 : decode cX9_flatStep 167 = .ok (.invokevirtual 216, 3) := by decide +kernel
theorem dX9_flatStep_170 : decode cX9_flatStep 170 = .ok (.iconst 1, 1) := by decide +kernel
theorem dX9_flatStep_171 : decode cX9_flatStep 171 = .ok (.ireturn, 1) := by decide +kernel
theorem dX9_flatStep_172 : decode cX9_flatStep 172 = .ok (.aload_n 0, 1) := by decide +kernel
theorem dX9_flatStep_173 : decode cX9_flatStep 173 = .ok (.aload_n 0, 1) := by decide +kernel
theorem dX9_flatStep_174 : decode cX9_flatStep 174 = .ok (.getfield 87, 3) := by decide +kernel
theorem dX9_flatStep_177 : decode cX9_flatStep 177 = .ok (.bipush 9, 2) := by decide +kernel
theorem dX9_flatStep_179 : decode cX9_flatStep 179 = .ok (.iload_n 1, 1) := by decide +kernel
theorem dX9_flatStep_180 : decode cX9_flatStep 180 = .ok (.imul, 1) := by decide +kernel
theorem dX9_flatStep_181 : decode cX9_flatStep 181 = .ok (.iload 5, 2) := by decide +kernel
theorem dX9_flatStep_183 : decode cX9_flatStep 183 = .ok (.iadd, 1) := by decide +kernel
theorem dX9_flatStep_184 : decode cX9_flatStep 184 = .ok (.iaload, 1) := by decide +kernel
theorem dX9_flatStep_185 : decode cX9_flatStep 185 = .ok (.putfield 204, 3) := by decide +kernel
theorem dX9_flatStep_188 : decode cX9_flatStep 188 = .ok (.iconst 1, 1) := by decide +kernel
theorem dX9_flatStep_189 : decode cX9_flatStep 189 = .ok (.ireturn, 1) := by decide +kernel
theorem dX9_flatStep_190 : decode cX9_flatStep 190 = .ok (.aload_n 0, 1) := by decide +kernel
theorem dX9_flatStep_191 : decode cX9_flatStep 191 = .ok (.getfield 87, 3) := by decide +kernel
theorem dX9_flatStep_194 : decode cX9_flatStep 194 = .ok (.bipush 9, 2) := by decide +kernel
theorem dX9_flatStep_196 : decode cX9_flatStep 196 = .ok (.iload_n 1, 1) := by decide +kernel
theorem dX9_flatStep_197 : decode cX9_flatStep 197 = .ok (.imul, 1) := by decide +kernel
theorem dX9_flatStep_198 : decode cX9_flatStep 198 = .ok (.iload 5, 2) := by decide +kernel
theorem dX9_flatStep_200 : decode cX9_flatStep 200 = .ok (.iadd, 1) := by decide +kernel
theorem dX9_flatStep_201 : decode cX9_flatStep 201 = .ok (.aload_n 0, 1) := by decide +kernel
theorem dX9_flatStep_202 : decode cX9_flatStep 202 = .ok (.getfield 204, 3) := by decide +kernel
theorem dX9_flatStep_205 : decode cX9_flatStep 205 = .ok (.iastore, 1) := by decide +kernel
theorem dX9_flatStep_206 : decode cX9_flatStep 206 = .ok (.iconst 1, 1) := by decide +kernel
theorem dX9_flatStep_207 : decode cX9_flatStep 207 = .ok (.ireturn, 1) := by decide +kernel
theorem dX9_flatStep_208 : decode cX9_flatStep 208 = .ok (.aload_n 0, 1) := by decide +kernel
theorem dX9_flatStep_209 : decode cX9_flatStep 209 = .ok (.getfield 196, 3) := by decide +kernel
theorem dX9_flatStep_212 : decode cX9_flatStep 212 = .ok (.bipush 61, 2) := by decide +kernel
theorem dX9_flatStep_214 : decode cX9_flatStep 214 = .ok (.if_icmp .ne 5, 3) := by decide +kernel
theorem dX9_flatStep_217 : decode cX9_flatStep 217 = .ok (.iconst 0, 1) := by decide +kernel
theorem dX9_flatStep_218 : decode cX9_flatStep 218 = .ok (.ireturn, 1) := by decide +kernel
theorem dX9_flatStep_219 : decode cX9_flatStep 219 = .ok (.aload_n 0, 1) := by decide +kernel
theorem dX9_flatStep_220 : decode cX9_flatStep 220 = .ok (.iload 5, 2) := by decide +kernel
theorem dX9_flatStep_222 : decode cX9_flatStep 222 = .ok (.invokevirtual 223, 3) := by decide +kernel
theorem dX9_flatStep_225 : decode cX9_flatStep 225 = .ok (.iconst 1, 1) := by decide +kernel
theorem dX9_flatStep_226 : decode cX9_flatStep 226 = .ok (.ireturn, 1) := by decide +kernel
theorem dX9_flatStep_227 : decode cX9_flatStep 227 = .ok (.iload 4, 2) := by decide +kernel
theorem dX9_flatStep_229 : decode cX9_flatStep 229 = .ok (.bipush 7, 2) := by decide +kernel
theorem dX9_flatStep_231 : decode cX9_flatStep 231 = .ok (.if_icmp .eq 10, 3) := by decide +kernel
theorem dX9_flatStep_234 : decode cX9_flatStep 234 = .ok (.aload_n 0, 1) := by decide +kernel
theorem dX9_flatStep_235 : decode cX9_flatStep 235 = .ok (.getfield 204, 3) := by decide +kernel
theorem dX9_flatStep_238 : decode cX9_flatStep 238 = .ok (.ifCond .ne 28, 3) := by decide +kernel
theorem dX9_flatStep_241 : decode cX9_flatStep 241 = .ok (.aload_n 0, 1) := by decide +kernel
theorem dX9_flatStep_242 : decode cX9_flatStep 242 = .ok (.getfield 84, 3) := by decide +kernel
theorem dX9_flatStep_245 : decode cX9_flatStep 245 = .ok (.iload_n 1, 1) := by decide +kernel
theorem dX9_flatStep_246 : decode cX9_flatStep 246 = .ok (.iload 5, 2) := by decide +kernel
theorem dX9_flatStep_248 : decode cX9_flatStep 248 = .ok (.iastore, 1) := by decide +kernel
theorem dX9_flatStep_249 : decode cX9_flatStep 249 = .ok (.iload 5, 2) := by decide +kernel
theorem dX9_flatStep_251 : decode cX9_flatStep 251 = .ok (.aload_n 0, 1) := by decide +kernel
theorem dX9_flatStep_252 : decode cX9_flatStep 252 = .ok (.getfield 23, 3) := by decide +kernel
theorem dX9_flatStep_255 : decode cX9_flatStep 255 = .ok (.iload_n 2, 1) := by decide +kernel
theorem dX9_flatStep_256 : decode cX9_flatStep 256 = .ok (.iaload, 1) := by decide +kernel
theorem dX9_flatStep_257 : decode cX9_flatStep 257 = .ok (.if_icmp .gt 7, 3) := by decide +kernel
theorem dX9_flatStep_260 : decode cX9_flatStep 260 = .ok (.iconst 1, 1) := by decide +kernel
theorem dX9_flatStep_261 : decode cX9_flatStep 261 = .ok (.goto 4, 3) := by decide +kernel
theorem dX9_flatStep_264 : decode cX9_flatStep 264 = .ok (.iconst 0, 1) := by decide +kernel
theorem dX9_flatStep_265 : decode cX9_flatStep 265 = .ok (.ireturn, 1) := by decide +kernel
theorem dX9_flatStep_266 : decode cX9_flatStep 266 = .ok (.iconst 1, 1) := by decide +kernel
theorem dX9_flatStep_267 : decode cX9_flatStep 267 = .ok (.ireturn, 1) := by decide +kernel
theorem dX9_flatStep_268 : decode cX9_flatStep 268 = .ok (.aload_n 0, 1) := by decide +kernel
theorem dX9_flatStep_269 : decode cX9_flatStep 269 = .ok (.dup, 1) := by decide +kernel
theorem dX9_flatStep_270 : decode cX9_flatStep 270 = .ok (.getfield 196, 3) := by decide +kernel
theorem dX9_flatStep_273 : decode cX9_flatStep 273 = .ok (.iconst 1, 1) := by decide +kernel
theorem dX9_flatStep_274 : decode cX9_flatStep 274 = .ok (.isub, 1) := by decide +kernel
theorem dX9_flatStep_275 : decode cX9_flatStep 275 = .ok (.putfield 196, 3) := by decide +kernel
theorem dX9_flatStep_278 : decode cX9_flatStep 278 = .ok (.iconst 1, 1) := by decide +kernel
theorem dX9_flatStep_279 : decode cX9_flatStep 279 = .ok (.ireturn, 1) := by decide +kernel
theorem dX9_flat_0 : decode cX9_flat 0 = .ok (.aload_n 0, 1) := by decide +kernel
theorem dX9_flat_1 : decode cX9_flat 1 = .ok (.iconst 0, 1) := by decide +kernel
theorem dX9_flat_2 : decode cX9_flat 2 = .ok (.putfield 1, 3) := by decide +kernel
theorem dX9_flat_5 : decode cX9_flat 5 = .ok (.aload_n 0, 1) := by decide +kernel
theorem dX9_flat_6 : decode cX9_flat 6 = .ok (.iload_n 1, 1) := by decide +kernel
theorem dX9_flat_7 : decode cX9_flat 7 = .ok (.invokevirtual 108, 3) := by decide +kernel
theorem dX9_flat_10 : decode cX9_flat 10 = .ok (.ifCond .eq 27, 3) := by decide +kernel
theorem dX9_flat_13 : decode cX9_flat 13 = .ok (.iload_n 2, 1) := by decide +kernel
theorem dX9_flat_14 : decode cX9_flat 14 = .ok (.i2l, 1) := by decide +kernel
theorem dX9_flat_15 : decode cX9_flat 15 = .ok (.lconst 0, 1) := by decide +kernel
theorem dX9_flat_16 : decode cX9_flat 16 = .ok (.ldc2_w 106, 3) := by decide +kernel
theorem dX9_flat_19 : decode cX9_flat 19 = .ok (.invokestatic 93, 3) := by decide +kernel
theorem dX9_flat_22 : decode cX9_flat 22 = .ok (.ifCond .eq 15, 3) := by decide +kernel
theorem dX9_flat_25 : decode cX9_flat 25 = .ok (.iload_n 3, 1) := by decide +kernel
theorem dX9_flat_26 : decode cX9_flat 26 = .ok (.i2l, 1) := by decide +kernel
theorem dX9_flat_27 : decode cX9_flat 27 = .ok (.lconst 1, 1) := by decide +kernel
theorem dX9_flat_28 : decode cX9_flat 28 = .ok (.ldc2_w 199, 3) := by decide +kernel
theorem dX9_flat_31 : decode cX9_flat 31 = .ok (.invokestatic 93, 3) := by decide +kernel
theorem dX9_flat_34 : decode cX9_flat 34 = .ok (.ifCond .ne 6, 3) := by decide +kernel
theorem dX9_flat_37 : decode cX9_flat 37 = .ok (.bipush (-2), 2) := by decide +kernel
theorem dX9_flat_39 : decode cX9_flat 39 = .ok (.ireturn, 1) := by decide +kernel
theorem dX9_flat_40 : decode cX9_flat 40 = .ok (.aload_n 0, 1) := by decide +kernel
theorem dX9_flat_41 : decode cX9_flat 41 = .ok (.iconst 1, 1) := by decide +kernel
theorem dX9_flat_42 : decode cX9_flat 42 = .ok (.invokevirtual 201, 3) := by decide +kernel
theorem dX9_flat_45 : decode cX9_flat 45 = .ok (.aload_n 0, 1) := by decide +kernel
theorem dX9_flat_46 : decode cX9_flat 46 = .ok (.iload_n 2, 1) := by decide +kernel
theorem dX9_flat_47 : decode cX9_flat 47 = .ok (.putfield 204, 3) := by decide +kernel
theorem dX9_flat_50 : decode cX9_flat 50 = .ok (.aload_n 0, 1) := by decide +kernel
theorem dX9_flat_51 : decode cX9_flat 51 = .ok (.iload_n 1, 1) := by decide +kernel
theorem dX9_flat_52 : decode cX9_flat 52 = .ok (.invokevirtual 223, 3) := by decide +kernel
theorem dX9_flat_55 : decode cX9_flat 55 = .ok (.iconst 1, 1) := by decide +kernel
theorem dX9_flat_56 : decode cX9_flat 56 = .ok (.istore 4, 2) := by decide +kernel
theorem dX9_flat_58 : decode cX9_flat 58 = .ok (.iload 4, 2) := by decide +kernel
theorem dX9_flat_60 : decode cX9_flat 60 = .ok (.ifCond .eq 39, 3) := by decide +kernel
theorem dX9_flat_63 : decode cX9_flat 63 = .ok (.aload_n 0, 1) := by decide +kernel
theorem dX9_flat_64 : decode cX9_flat 64 = .ok (.getfield 196, 3) := by decide +kernel
theorem dX9_flat_67 : decode cX9_flat 67 = .ok (.ifCond .le 32, 3) := by decide +kernel
theorem dX9_flat_70 : decode cX9_flat 70 = .ok (.aload_n 0, 1) := by decide +kernel
theorem dX9_flat_71 : decode cX9_flat 71 = .ok (.getfield 69, 3) := by decide +kernel
theorem dX9_flat_74 : decode cX9_flat 74 = .ok (.iconst 5, 1) := by decide +kernel
theorem dX9_flat_75 : decode cX9_flat 75 = .ok (.iaload, 1) := by decide +kernel
theorem dX9_flat_76 : decode cX9_flat 76 = .ok (.iload_n 3, 1) := by decide +kernel
theorem dX9_flat_77 : decode cX9_flat 77 = .ok (.if_icmp .ge 22, 3) := by decide +kernel
theorem dX9_flat_80 : decode cX9_flat 80 = .ok (.aload_n 0, 1) := by decide +kernel
theorem dX9_flat_81 : decode cX9_flat 81 = .ok (.getfield 69, 3) := by decide +kernel
theorem dX9_flat_84 : decode cX9_flat 84 = .ok (.iconst 5, 1) := by decide +kernel
theorem dX9_flat_85 : decode cX9_flat 85 = .ok (.dup2, 1) := by decide +kernel
theorem dX9_flat_86 : decode cX9_flat 86 = .ok (.iaload, 1) := by decide +kernel
theorem dX9_flat_87 : decode cX9_flat 87 = .ok (.iconst 1, 1) := by decide +kernel
theorem dX9_flat_88 : decode cX9_flat 88 = .ok (.iadd, 1) := by decide +kernel
theorem dX9_flat_89 : decode cX9_flat 89 = .ok (.iastore, 1) := by decide +kernel
theorem dX9_flat_90 : decode cX9_flat 90 = .ok (.aload_n 0, 1) := by decide +kernel
theorem dX9_flat_91 : decode cX9_flat 91 = .ok (.invokevirtual 226, 3) := by decide +kernel
theorem dX9_flat_94 : decode cX9_flat 94 = .ok (.istore 4, 2) := by decide +kernel
theorem dX9_flat_96 : decode cX9_flat 96 = .ok (.goto (-38), 3) := by decide +kernel
theorem dX9_flat_99 : decode cX9_flat 99 = .ok (.aload_n 0, 1) := by decide +kernel
theorem dX9_flat_100 : decode cX9_flat 100 = .ok (.getfield 69, 3) := by decide +kernel
theorem dX9_flat_103 : decode cX9_flat 103 = .ok (.bipush 6, 2) := by decide +kernel
theorem dX9_flat_105 : decode cX9_flat 105 = .ok (.aload_n 0, 1) := by decide +kernel
theorem dX9_flat_106 : decode cX9_flat 106 = .ok (.getfield 204, 3) := by decide +kernel
theorem dX9_flat_109 : decode cX9_flat 109 = .ok (.iastore, 1) := by decide +kernel
theorem dX9_flat_110 : decode cX9_flat 110 = .ok (.iload 4, 2) := by decide +kernel
theorem dX9_flat_112 : decode cX9_flat 112 = .ok (.ifCond .ne 7, 3) := by decide +kernel
theorem dX9_flat_115 : decode cX9_flat 115 = .ok (.iconst 0, 1) := by decide +kernel
theorem dX9_flat_116 : decode cX9_flat 116 = .ok (.goto 16, 3) := by decide +kernel
theorem dX9_flat_119 : decode cX9_flat 119 = .ok (.aload_n 0, 1) := by decide +kernel
theorem dX9_flat_120 : decode cX9_flat 120 = .ok (.getfield 196, 3) := by decide +kernel
theorem dX9_flat_123 : decode cX9_flat 123 = .ok (.ifCond .ne 7, 3) := by decide +kernel
theorem dX9_flat_126 : decode cX9_flat 126 = .ok (.iconst 1, 1) := by decide +kernel
theorem dX9_flat_127 : decode cX9_flat 127 = .ok (.goto 5, 3) := by decide +kernel
theorem dX9_flat_130 : decode cX9_flat 130 = .ok (.bipush (-5), 2) := by decide +kernel
theorem dX9_flat_132 : decode cX9_flat 132 = .ok (.ireturn, 1) := by decide +kernel
