theorem d_Md_findEdges_85 : decode b_Md_findEdges 85 = .ok (.isub, 1) := by decide +kernel
theorem d_Md_findEdges_86 : decode b_Md_findEdges 86 = .ok (.iaload, 1) := by decide +kernel
theorem d_Md_findEdges_87 : decode b_Md_findEdges 87 = .ok (.iastore, 1) := by decide +kernel
theorem d_Md_findEdges_88 : decode b_Md_findEdges 88 = .ok (.iinc 2 (-1), 3) := by decide +kernel
theorem d_Md_findEdges_91 : decode b_Md_findEdges 91 = .ok (.goto (-55), 3) := by decide +kernel
theorem d_Md_findEdges_20 : decode b_Md_findEdges 20 = .ok (.aload_n 0, 1) := by decide +kernel
theorem d_Md_findEdges_21 : decode b_Md_findEdges 21 = .ok (.iload_n 1, 1) := by decide +kernel
theorem d_Md_findEdges_22 : decode b_Md_findEdges 22 = .ok (.invokevirtual 315, 3) := by decide +kernel
theorem d_Md_findEdges_25 : decode b_Md_findEdges 25 = .ok (.ifCond .eq 6, 3) := by decide +kernel
theorem d_Md_findEdges_31 : decode b_Md_findEdges 31 = .ok (.aload_n 0, 1) := by decide +kernel
theorem d_Md_findEdges_32 : decode b_Md_findEdges 32 = .ok (.getfield 309, 3) := by decide +kernel
theorem d_Md_findEdges_35 : decode b_Md_findEdges 35 = .ok (.istore_n 2, 1) := by decide +kernel
theorem d_Md_findEdges_28 : decode b_Md_findEdges 28 = .ok (.goto 98, 3) := by decide +kernel
theorem d_Md_turn_0 : decode b_Md_turn 0 = .ok (.aload_n 0, 1) := by decide +kernel
theorem d_Md_turn_1 : decode b_Md_turn 1 = .ok (.iload_n 1, 1) := by decide +kernel
theorem d_Md_turn_2 : decode b_Md_turn 2 = .ok (.invokevirtual 325, 3) := by decide +kernel
theorem d_Md_turn_5 : decode b_Md_turn 5 = .ok (.istore_n 2, 1) := by decide +kernel
theorem d_Md_turn_6 : decode b_Md_turn 6 = .ok (.iload_n 2, 1) := by decide +kernel
theorem d_Md_turn_7 : decode b_Md_turn 7 = .ok (.bipush (-4), 2) := by decide +kernel
theorem d_Md_turn_9 : decode b_Md_turn 9 = .ok (.iand, 1) := by decide +kernel
theorem d_Md_turn_10 : decode b_Md_turn 10 = .ok (.iload_n 2, 1) := by decide +kernel
theorem d_Md_turn_11 : decode b_Md_turn 11 = .ok (.iconst 3, 1) := by decide +kernel
theorem d_Md_turn_12 : decode b_Md_turn 12 = .ok (.iadd, 1) := by decide +kernel
theorem d_Md_turn_13 : decode b_Md_turn 13 = .ok (.iconst 3, 1) := by decide +kernel
theorem d_Md_turn_14 : decode b_Md_turn 14 = .ok (.iand, 1) := by decide +kernel
theorem d_Md_turn_15 : decode b_Md_turn 15 = .ok (.ior, 1) := by decide +kernel
theorem d_Md_turn_16 : decode b_Md_turn 16 = .ok (.istore_n 3, 1) := by decide +kernel
theorem d_Md_turn_17 : decode b_Md_turn 17 = .ok (.aload_n 0, 1) := by decide +kernel
theorem d_Md_turn_18 : decode b_Md_turn 18 = .ok (.getfield 81, 3) := by decide +kernel
theorem d_Md_turn_21 : decode b_Md_turn 21 = .ok (.iload_n 3, 1) := by decide +kernel
theorem d_Md_turn_22 : decode b_Md_turn 22 = .ok (.iaload, 1) := by decide +kernel
theorem d_Md_turn_23 : decode b_Md_turn 23 = .ok (.istore 4, 2) := by decide +kernel
theorem d_Md_turn_25 : decode b_Md_turn 25 = .ok (.iconst 2, 1) := by decide +kernel
theorem d_Md_turn_26 : decode b_Md_turn 26 = .ok (.iload 4, 2) := by decide +kernel
theorem d_Md_turn_28 : decode b_Md_turn 28 = .ok (.imul, 1) := by decide +kernel
theorem d_Md_turn_29 : decode b_Md_turn 29 = .ok (.aload_n 0, 1) := by decide +kernel
theorem d_Md_turn_30 : decode b_Md_turn 30 = .ok (.getfield 69, 3) := by decide +kernel
theorem d_Md_turn_33 : decode b_Md_turn 33 = .ok (.iload 4, 2) := by decide +kernel
theorem d_Md_turn_35 : decode b_Md_turn 35 = .ok (.iaload, 1) := by decide +kernel
theorem d_Md_turn_36 : decode b_Md_turn 36 = .ok (.iload_n 3, 1) := by decide +kernel
theorem d_Md_turn_37 : decode b_Md_turn 37 = .ok (.if_icmp .ne 7, 3) := by decide +kernel
theorem d_Md_turn_44 : decode b_Md_turn 44 = .ok (.iconst 1, 1) := by decide +kernel
theorem d_Md_turn_45 : decode b_Md_turn 45 = .ok (.iadd, 1) := by decide +kernel
theorem d_Md_turn_46 : decode b_Md_turn 46 = .ok (.ireturn, 1) := by decide +kernel
theorem d_Md_turn_40 : decode b_Md_turn 40 = .ok (.iconst 0, 1) := by decide +kernel
theorem d_Md_turn_41 : decode b_Md_turn 41 = .ok (.goto 4, 3) := by decide +kernel
theorem d_Md_loose_50 : decode b_Md_loose 50 = .ok (.istore_n 1, 1) := by decide +kernel
theorem d_Md_loose_51 : decode b_Md_loose 51 = .ok (.iinc 2 1, 3) := by decide +kernel
theorem d_Md_loose_54 : decode b_Md_loose 54 = .ok (.goto (-50), 3) := by decide +kernel
theorem d_Md_loose_49 : decode b_Md_loose 49 = .ok (.iload_n 1, 1) := by decide +kernel
theorem d_Md_loose_45 : decode b_Md_loose 45 = .ok (.iload_n 3, 1) := by decide +kernel
theorem d_Md_loose_46 : decode b_Md_loose 46 = .ok (.goto 4, 3) := by decide +kernel
theorem d_Md_loose_4 : decode b_Md_loose 4 = .ok (.iload_n 2, 1) := by decide +kernel
theorem d_Md_loose_5 : decode b_Md_loose 5 = .ok (.iconst 4, 1) := by decide +kernel
theorem d_Md_loose_6 : decode b_Md_loose 6 = .ok (.aload_n 0, 1) := by decide +kernel
theorem d_Md_loose_7 : decode b_Md_loose 7 = .ok (.getfield 37, 3) := by decide +kernel
theorem d_Md_loose_10 : decode b_Md_loose 10 = .ok (.getfield 312, 3) := by decide +kernel
theorem d_Md_loose_13 : decode b_Md_loose 13 = .ok (.imul, 1) := by decide +kernel
theorem d_Md_loose_14 : decode b_Md_loose 14 = .ok (.if_icmp .ge 43, 3) := by decide +kernel
theorem d_Md_loose_57 : decode b_Md_loose 57 = .ok (.iload_n 1, 1) := by decide +kernel
theorem d_Md_loose_58 : decode b_Md_loose 58 = .ok (.ireturn, 1) := by decide +kernel
theorem d_Md_loose_17 : decode b_Md_loose 17 = .ok (.aload_n 0, 1) := by decide +kernel
theorem d_Md_loose_18 : decode b_Md_loose 18 = .ok (.getfield 37, 3) := by decide +kernel
theorem d_Md_loose_21 : decode b_Md_loose 21 = .ok (.getfield 318, 3) := by decide +kernel
theorem d_Md_loose_24 : decode b_Md_loose 24 = .ok (.iload_n 2, 1) := by decide +kernel
theorem d_Md_loose_25 : decode b_Md_loose 25 = .ok (.iaload, 1) := by decide +kernel
theorem d_Md_loose_26 : decode b_Md_loose 26 = .ok (.istore_n 3, 1) := by decide +kernel
theorem d_Md_loose_27 : decode b_Md_loose 27 = .ok (.aload_n 0, 1) := by decide +kernel
theorem d_Md_loose_28 : decode b_Md_loose 28 = .ok (.iload_n 3, 1) := by decide +kernel
theorem d_Md_loose_29 : decode b_Md_loose 29 = .ok (.invokevirtual 348, 3) := by decide +kernel
theorem d_Md_loose_32 : decode b_Md_loose 32 = .ok (.iconst 2, 1) := by decide +kernel
theorem d_Md_loose_33 : decode b_Md_loose 33 = .ok (.if_icmp .eq 16, 3) := by decide +kernel
theorem d_Md_loose_36 : decode b_Md_loose 36 = .ok (.iload_n 1, 1) := by decide +kernel
theorem d_Md_loose_37 : decode b_Md_loose 37 = .ok (.ifCond .eq 8, 3) := by decide +kernel
theorem d_Md_loose_40 : decode b_Md_loose 40 = .ok (.iload_n 3, 1) := by decide +kernel
theorem d_Md_loose_41 : decode b_Md_loose 41 = .ok (.iload_n 1, 1) := by decide +kernel
theorem d_Md_loose_42 : decode b_Md_loose 42 = .ok (.if_icmp .ge 7, 3) := by decide +kernel
theorem d_Md_loose_0 : decode b_Md_loose 0 = .ok (.iconst 0, 1) := by decide +kernel
theorem d_Md_loose_1 : decode b_Md_loose 1 = .ok (.istore_n 1, 1) := by decide +kernel
theorem d_Md_loose_2 : decode b_Md_loose 2 = .ok (.iconst 0, 1) := by decide +kernel
theorem d_Md_loose_3 : decode b_Md_loose 3 = .ok (.istore_n 2, 1) := by decide +kernel
theorem d_Md_turned_50 : decode b_Md_turned 50 = .ok (.istore_n 1, 1) := by decide +kernel
theorem d_Md_turned_51 : decode b_Md_turned 51 = .ok (.iinc 2 1, 3) := by decide +kernel
theorem d_Md_turned_54 : decode b_Md_turned 54 = .ok (.goto (-50), 3) := by decide +kernel
theorem d_Md_turned_49 : decode b_Md_turned 49 = .ok (.iload_n 1, 1) := by decide +kernel
theorem d_Md_turned_45 : decode b_Md_turned 45 = .ok (.iload_n 3, 1) := by decide +kernel
theorem d_Md_turned_46 : decode b_Md_turned 46 = .ok (.goto 4, 3) := by decide +kernel
theorem d_Md_turned_4 : decode b_Md_turned 4 = .ok (.iload_n 2, 1) := by decide +kernel
theorem d_Md_turned_5 : decode b_Md_turned 5 = .ok (.iconst 4, 1) := by decide +kernel
theorem d_Md_turned_6 : decode b_Md_turned 6 = .ok (.aload_n 0, 1) := by decide +kernel
theorem d_Md_turned_7 : decode b_Md_turned 7 = .ok (.getfield 37, 3) := by decide +kernel
theorem d_Md_turned_10 : decode b_Md_turned 10 = .ok (.getfield 312, 3) := by decide +kernel
theorem d_Md_turned_13 : decode b_Md_turned 13 = .ok (.imul, 1) := by decide +kernel
theorem d_Md_turned_14 : decode b_Md_turned 14 = .ok (.if_icmp .ge 43, 3) := by decide +kernel
theorem d_Md_turned_57 : decode b_Md_turned 57 = .ok (.iload_n 1, 1) := by decide +kernel
theorem d_Md_turned_58 : decode b_Md_turned 58 = .ok (.ireturn, 1) := by decide +kernel
theorem d_Md_turned_17 : decode b_Md_turned 17 = .ok (.aload_n 0, 1) := by decide +kernel
theorem d_Md_turned_18 : decode b_Md_turned 18 = .ok (.getfield 37, 3) := by decide +kernel
theorem d_Md_turned_21 : decode b_Md_turned 21 = .ok (.getfield 318, 3) := by decide +kernel
theorem d_Md_turned_24 : decode b_Md_turned 24 = .ok (.iload_n 2, 1) := by decide +kernel
theorem d_Md_turned_25 : decode b_Md_turned 25 = .ok (.iaload, 1) := by decide +kernel
theorem d_Md_turned_26 : decode b_Md_turned 26 = .ok (.istore_n 3, 1) := by decide +kernel
theorem d_Md_turned_27 : decode b_Md_turned 27 = .ok (.aload_n 0, 1) := by decide +kernel
theorem d_Md_turned_28 : decode b_Md_turned 28 = .ok (.iload_n 3, 1) := by decide +kernel
theorem d_Md_turned_29 : decode b_Md_turned 29 = .ok (.invokevirtual 351, 3) := by decide +kernel
theorem d_Md_turned_32 : decode b_Md_turned 32 = .ok (.iconst 1, 1) := by decide +kernel
theorem d_Md_turned_33 : decode b_Md_turned 33 = .ok (.if_icmp .eq 16, 3) := by decide +kernel
theorem d_Md_turned_36 : decode b_Md_turned 36 = .ok (.iload_n 1, 1) := by decide +kernel
theorem d_Md_turned_37 : decode b_Md_turned 37 = .ok (.ifCond .eq 8, 3) := by decide +kernel
theorem d_Md_turned_40 : decode b_Md_turned 40 = .ok (.iload_n 3, 1) := by decide +kernel
theorem d_Md_turned_41 : decode b_Md_turned 41 = .ok (.iload_n 1, 1) := by decide +kernel
theorem d_Md_turned_42 : decode b_Md_turned 42 = .ok (.if_icmp .ge 7, 3) := by decide +kernel
theorem d_Md_turned_0 : decode b_Md_turned 0 = .ok (.iconst 0, 1) := by decide +kernel
theorem d_Md_turned_1 : decode b_Md_turned 1 = .ok (.istore_n 1, 1) := by decide +kernel
theorem d_Md_turned_2 : decode b_Md_turned 2 = .ok (.iconst 0, 1) := by decide +kernel
theorem d_Md_turned_3 : decode b_Md_turned 3 = .ok (.istore_n 2, 1) := by decide +kernel
theorem d_Md_sayBehind_0 : decode b_Md_sayBehind 0 = .ok (.aload_n 0, 1) := by decide +kernel
theorem d_Md_sayBehind_1 : decode b_Md_sayBehind 1 = .ok (.bipush 32, 2) := by decide +kernel
theorem d_Md_sayBehind_3 : decode b_Md_sayBehind 3 = .ok (.invokevirtual 509, 3) := by decide +kernel
theorem d_Md_sayBehind_6 : decode b_Md_sayBehind 6 = .ok (.aload_n 0, 1) := by decide +kernel
theorem d_Md_sayBehind_7 : decode b_Md_sayBehind 7 = .ok (.lload_n 1, 1) := by decide +kernel
theorem d_Md_sayBehind_8 : decode b_Md_sayBehind 8 = .ok (.invokevirtual 514, 3) := by decide +kernel
theorem d_Md_sayBehind_11 : decode b_Md_sayBehind 11 = .ok (.return_, 1) := by decide +kernel
theorem d_Md_close_261 : decode b_Md_close 261 = .ok (.iastore, 1) := by decide +kernel
theorem d_Md_close_262 : decode b_Md_close 262 = .ok (.iinc 4 1, 3) := by decide +kernel
theorem d_Md_close_265 : decode b_Md_close 265 = .ok (.goto (-60), 3) := by decide +kernel
theorem d_Md_close_205 : decode b_Md_close 205 = .ok (.iload 4, 2) := by decide +kernel
theorem d_Md_close_207 : decode b_Md_close 207 = .ok (.iconst 4, 1) := by decide +kernel
theorem d_Md_close_208 : decode b_Md_close 208 = .ok (.aload_n 0, 1) := by decide +kernel
theorem d_Md_close_209 : decode b_Md_close 209 = .ok (.getfield 37, 3) := by decide +kernel
theorem d_Md_close_212 : decode b_Md_close 212 = .ok (.getfield 312, 3) := by decide +kernel
theorem d_Md_close_215 : decode b_Md_close 215 = .ok (.imul, 1) := by decide +kernel
theorem d_Md_close_216 : decode b_Md_close 216 = .ok (.if_icmp .ge 52, 3) := by decide +kernel
theorem d_Md_close_268 : decode b_Md_close 268 = .ok (.iinc 3 1, 3) := by decide +kernel
theorem d_Md_close_271 : decode b_Md_close 271 = .ok (.goto (-97), 3) := by decide +kernel
theorem d_Md_close_219 : decode b_Md_close 219 = .ok (.aload_n 0, 1) := by decide +kernel
theorem d_Md_close_220 : decode b_Md_close 220 = .ok (.getfield 37, 3) := by decide +kernel
theorem d_Md_close_223 : decode b_Md_close 223 = .ok (.getfield 318, 3) := by decide +kernel
theorem d_Md_close_226 : decode b_Md_close 226 = .ok (.iload 4, 2) := by decide +kernel
theorem d_Md_close_228 : decode b_Md_close 228 = .ok (.aload_n 0, 1) := by decide +kernel
theorem d_Md_close_229 : decode b_Md_close 229 = .ok (.getfield 37, 3) := by decide +kernel
theorem d_Md_close_232 : decode b_Md_close 232 = .ok (.getfield 318, 3) := by decide +kernel
theorem d_Md_close_235 : decode b_Md_close 235 = .ok (.iload 4, 2) := by decide +kernel
theorem d_Md_close_237 : decode b_Md_close 237 = .ok (.iaload, 1) := by decide +kernel
theorem d_Md_close_238 : decode b_Md_close 238 = .ok (.aload_n 0, 1) := by decide +kernel
theorem d_Md_close_239 : decode b_Md_close 239 = .ok (.getfield 93, 3) := by decide +kernel
theorem d_Md_close_242 : decode b_Md_close 242 = .ok (.iload_n 3, 1) := by decide +kernel
theorem d_Md_close_243 : decode b_Md_close 243 = .ok (.iaload, 1) := by decide +kernel
theorem d_Md_close_244 : decode b_Md_close 244 = .ok (.if_icmp .ne 7, 3) := by decide +kernel
theorem d_Md_close_251 : decode b_Md_close 251 = .ok (.aload_n 0, 1) := by decide +kernel
theorem d_Md_close_252 : decode b_Md_close 252 = .ok (.getfield 37, 3) := by decide +kernel
theorem d_Md_close_255 : decode b_Md_close 255 = .ok (.getfield 318, 3) := by decide +kernel
theorem d_Md_close_258 : decode b_Md_close 258 = .ok (.iload 4, 2) := by decide +kernel
theorem d_Md_close_260 : decode b_Md_close 260 = .ok (.iaload, 1) := by decide +kernel
theorem d_Md_close_247 : decode b_Md_close 247 = .ok (.iload_n 3, 1) := by decide +kernel
theorem d_Md_close_248 : decode b_Md_close 248 = .ok (.goto 13, 3) := by decide +kernel
theorem d_Md_close_202 : decode b_Md_close 202 = .ok (.iconst 0, 1) := by decide +kernel
theorem d_Md_close_203 : decode b_Md_close 203 = .ok (.istore 4, 2) := by decide +kernel
theorem d_Md_close_174 : decode b_Md_close 174 = .ok (.iload_n 3, 1) := by decide +kernel
theorem d_Md_close_175 : decode b_Md_close 175 = .ok (.iload_n 2, 1) := by decide +kernel
theorem d_Md_close_176 : decode b_Md_close 176 = .ok (.if_icmp .gt 98, 3) := by decide +kernel
theorem d_Md_close_274 : decode b_Md_close 274 = .ok (.return_, 1) := by decide +kernel
theorem d_Md_close_179 : decode b_Md_close 179 = .ok (.aload_n 0, 1) := by decide +kernel
theorem d_Md_close_180 : decode b_Md_close 180 = .ok (.getfield 93, 3) := by decide +kernel
theorem d_Md_close_183 : decode b_Md_close 183 = .ok (.iload_n 3, 1) := by decide +kernel
theorem d_Md_close_184 : decode b_Md_close 184 = .ok (.iaload, 1) := by decide +kernel
theorem d_Md_close_185 : decode b_Md_close 185 = .ok (.iload_n 3, 1) := by decide +kernel
theorem d_Md_close_186 : decode b_Md_close 186 = .ok (.if_icmp .ne 16, 3) := by decide +kernel
theorem d_Md_close_189 : decode b_Md_close 189 = .ok (.aload_n 0, 1) := by decide +kernel
theorem d_Md_close_190 : decode b_Md_close 190 = .ok (.getfield 37, 3) := by decide +kernel
theorem d_Md_close_193 : decode b_Md_close 193 = .ok (.dup, 1) := by decide +kernel
theorem d_Md_close_194 : decode b_Md_close 194 = .ok (.getfield 354, 3) := by decide +kernel
theorem d_Md_close_197 : decode b_Md_close 197 = .ok (.iconst 1, 1) := by decide +kernel
theorem d_Md_close_198 : decode b_Md_close 198 = .ok (.iadd, 1) := by decide +kernel
theorem d_Md_close_199 : decode b_Md_close 199 = .ok (.putfield 354, 3) := by decide +kernel
theorem d_Md_close_146 : decode b_Md_close 146 = .ok (.aload_n 0, 1) := by decide +kernel
theorem d_Md_close_147 : decode b_Md_close 147 = .ok (.getfield 93, 3) := by decide +kernel
theorem d_Md_close_150 : decode b_Md_close 150 = .ok (.iload 5, 2) := by decide +kernel
theorem d_Md_close_152 : decode b_Md_close 152 = .ok (.iload 8, 2) := by decide +kernel
theorem d_Md_close_154 : decode b_Md_close 154 = .ok (.iastore, 1) := by decide +kernel
theorem d_Md_close_155 : decode b_Md_close 155 = .ok (.aload_n 0, 1) := by decide +kernel
theorem d_Md_close_156 : decode b_Md_close 156 = .ok (.getfield 93, 3) := by decide +kernel
theorem d_Md_close_159 : decode b_Md_close 159 = .ok (.iload 5, 2) := by decide +kernel
theorem d_Md_close_161 : decode b_Md_close 161 = .ok (.iconst 1, 1) := by decide +kernel
theorem d_Md_close_162 : decode b_Md_close 162 = .ok (.iadd, 1) := by decide +kernel
theorem d_Md_close_163 : decode b_Md_close 163 = .ok (.iload 9, 2) := by decide +kernel
theorem d_Md_close_165 : decode b_Md_close 165 = .ok (.iastore, 1) := by decide +kernel
theorem d_Md_close_166 : decode b_Md_close 166 = .ok (.iinc 3 1, 3) := by decide +kernel
theorem d_Md_close_169 : decode b_Md_close 169 = .ok (.goto (-126), 3) := by decide +kernel
theorem d_Md_close_72 : decode b_Md_close 72 = .ok (.istore 5, 2) := by decide +kernel
theorem d_Md_close_74 : decode b_Md_close 74 = .ok (.aload_n 0, 1) := by decide +kernel
theorem d_Md_close_75 : decode b_Md_close 75 = .ok (.getfield 93, 3) := by decide +kernel
theorem d_Md_close_78 : decode b_Md_close 78 = .ok (.iload 5, 2) := by decide +kernel
theorem d_Md_close_80 : decode b_Md_close 80 = .ok (.iaload, 1) := by decide +kernel
theorem d_Md_close_81 : decode b_Md_close 81 = .ok (.istore 6, 2) := by decide +kernel
theorem d_Md_close_83 : decode b_Md_close 83 = .ok (.aload_n 0, 1) := by decide +kernel
theorem d_Md_close_84 : decode b_Md_close 84 = .ok (.getfield 93, 3) := by decide +kernel
theorem d_Md_close_87 : decode b_Md_close 87 = .ok (.iload 5, 2) := by decide +kernel
theorem d_Md_close_89 : decode b_Md_close 89 = .ok (.iconst 1, 1) := by decide +kernel
theorem d_Md_close_90 : decode b_Md_close 90 = .ok (.iadd, 1) := by decide +kernel
