theorem d_Md_printed_0 : decode b_Md_printed 0 = .ok (.iload_n 1, 1) := by decide +kernel
theorem d_Md_printed_1 : decode b_Md_printed 1 = .ok (.ifCond .lt 24, 3) := by decide +kernel
theorem d_Md_printed_4 : decode b_Md_printed 4 = .ok (.iload_n 1, 1) := by decide +kernel
theorem d_Md_printed_5 : decode b_Md_printed 5 = .ok (.aload_n 0, 1) := by decide +kernel
theorem d_Md_printed_6 : decode b_Md_printed 6 = .ok (.getfield 674, 3) := by decide +kernel
theorem d_Md_printed_9 : decode b_Md_printed 9 = .ok (.if_icmp .ge 16, 3) := by decide +kernel
theorem d_Md_printed_12 : decode b_Md_printed 12 = .ok (.aload_n 0, 1) := by decide +kernel
theorem d_Md_printed_13 : decode b_Md_printed 13 = .ok (.getfield 13, 3) := by decide +kernel
theorem d_Md_printed_16 : decode b_Md_printed 16 = .ok (.iload_n 1, 1) := by decide +kernel
theorem d_Md_printed_17 : decode b_Md_printed 17 = .ok (.baload, 1) := by decide +kernel
theorem d_Md_printed_18 : decode b_Md_printed 18 = .ok (.sipush 255, 3) := by decide +kernel
theorem d_Md_printed_21 : decode b_Md_printed 21 = .ok (.iand, 1) := by decide +kernel
theorem d_Md_printed_22 : decode b_Md_printed 22 = .ok (.goto 4, 3) := by decide +kernel
theorem d_Md_printed_25 : decode b_Md_printed 25 = .ok (.iconst (-1), 1) := by decide +kernel
theorem d_Md_printed_26 : decode b_Md_printed 26 = .ok (.ireturn, 1) := by decide +kernel
theorem d_Md_push_0 : decode b_Md_push 0 = .ok (.aload_n 0, 1) := by decide +kernel
theorem d_Md_push_1 : decode b_Md_push 1 = .ok (.iload_n 1, 1) := by decide +kernel
theorem d_Md_push_2 : decode b_Md_push 2 = .ok (.ifCond .ge 8, 3) := by decide +kernel
theorem d_Md_push_5 : decode b_Md_push 5 = .ok (.iload_n 1, 1) := by decide +kernel
theorem d_Md_push_6 : decode b_Md_push 6 = .ok (.ineg, 1) := by decide +kernel
theorem d_Md_push_7 : decode b_Md_push 7 = .ok (.goto 4, 3) := by decide +kernel
theorem d_Md_push_10 : decode b_Md_push 10 = .ok (.iload_n 1, 1) := by decide +kernel
theorem d_Md_push_11 : decode b_Md_push 11 = .ok (.invokevirtual 321, 3) := by decide +kernel
theorem d_Md_push_14 : decode b_Md_push 14 = .ok (.istore 4, 2) := by decide +kernel
theorem d_Md_push_16 : decode b_Md_push 16 = .ok (.aload_n 0, 1) := by decide +kernel
theorem d_Md_push_17 : decode b_Md_push 17 = .ok (.iload_n 3, 1) := by decide +kernel
theorem d_Md_push_18 : decode b_Md_push 18 = .ok (.ifCond .ge 8, 3) := by decide +kernel
theorem d_Md_push_21 : decode b_Md_push 21 = .ok (.iload_n 3, 1) := by decide +kernel
theorem d_Md_push_22 : decode b_Md_push 22 = .ok (.ineg, 1) := by decide +kernel
theorem d_Md_push_23 : decode b_Md_push 23 = .ok (.goto 4, 3) := by decide +kernel
theorem d_Md_push_26 : decode b_Md_push 26 = .ok (.iload_n 3, 1) := by decide +kernel
theorem d_Md_push_27 : decode b_Md_push 27 = .ok (.invokevirtual 321, 3) := by decide +kernel
theorem d_Md_push_30 : decode b_Md_push 30 = .ok (.istore 5, 2) := by decide +kernel
theorem d_Md_push_32 : decode b_Md_push 32 = .ok (.iload 4, 2) := by decide +kernel
theorem d_Md_push_34 : decode b_Md_push 34 = .ok (.ifCond .lt 29, 3) := by decide +kernel
theorem d_Md_push_37 : decode b_Md_push 37 = .ok (.iload 5, 2) := by decide +kernel
theorem d_Md_push_39 : decode b_Md_push 39 = .ok (.ifCond .lt 24, 3) := by decide +kernel
theorem d_Md_push_42 : decode b_Md_push 42 = .ok (.iload 4, 2) := by decide +kernel
theorem d_Md_push_44 : decode b_Md_push 44 = .ok (.iload 5, 2) := by decide +kernel
theorem d_Md_push_46 : decode b_Md_push 46 = .ok (.if_icmp .eq 17, 3) := by decide +kernel
theorem d_Md_push_49 : decode b_Md_push 49 = .ok (.aload_n 0, 1) := by decide +kernel
theorem d_Md_push_50 : decode b_Md_push 50 = .ok (.getfield 37, 3) := by decide +kernel
theorem d_Md_push_53 : decode b_Md_push 53 = .ok (.getfield 312, 3) := by decide +kernel
theorem d_Md_push_56 : decode b_Md_push 56 = .ok (.iconst 2, 1) := by decide +kernel
theorem d_Md_push_57 : decode b_Md_push 57 = .ok (.iadd, 1) := by decide +kernel
theorem d_Md_push_58 : decode b_Md_push 58 = .ok (.bipush 20, 2) := by decide +kernel
theorem d_Md_push_60 : decode b_Md_push 60 = .ok (.if_icmp .le 5, 3) := by decide +kernel
theorem d_Md_push_63 : decode b_Md_push 63 = .ok (.iconst 0, 1) := by decide +kernel
theorem d_Md_push_64 : decode b_Md_push 64 = .ok (.ireturn, 1) := by decide +kernel
theorem d_Md_push_65 : decode b_Md_push 65 = .ok (.aload_n 0, 1) := by decide +kernel
theorem d_Md_push_66 : decode b_Md_push 66 = .ok (.getfield 84, 3) := by decide +kernel
theorem d_Md_push_69 : decode b_Md_push 69 = .ok (.iconst 2, 1) := by decide +kernel
theorem d_Md_push_70 : decode b_Md_push 70 = .ok (.iload 4, 2) := by decide +kernel
theorem d_Md_push_72 : decode b_Md_push 72 = .ok (.imul, 1) := by decide +kernel
theorem d_Md_push_73 : decode b_Md_push 73 = .ok (.iload_n 1, 1) := by decide +kernel
theorem d_Md_push_74 : decode b_Md_push 74 = .ok (.ifCond .ge 7, 3) := by decide +kernel
theorem d_Md_push_77 : decode b_Md_push 77 = .ok (.iconst 1, 1) := by decide +kernel
theorem d_Md_push_78 : decode b_Md_push 78 = .ok (.goto 4, 3) := by decide +kernel
theorem d_Md_push_81 : decode b_Md_push 81 = .ok (.iconst 0, 1) := by decide +kernel
theorem d_Md_push_82 : decode b_Md_push 82 = .ok (.iadd, 1) := by decide +kernel
theorem d_Md_push_83 : decode b_Md_push 83 = .ok (.iaload, 1) := by decide +kernel
theorem d_Md_push_84 : decode b_Md_push 84 = .ok (.aload_n 0, 1) := by decide +kernel
theorem d_Md_push_85 : decode b_Md_push 85 = .ok (.getfield 84, 3) := by decide +kernel
theorem d_Md_push_88 : decode b_Md_push 88 = .ok (.iconst 2, 1) := by decide +kernel
theorem d_Md_push_89 : decode b_Md_push 89 = .ok (.iload 5, 2) := by decide +kernel
theorem d_Md_push_91 : decode b_Md_push 91 = .ok (.imul, 1) := by decide +kernel
theorem d_Md_push_92 : decode b_Md_push 92 = .ok (.iload_n 3, 1) := by decide +kernel
theorem d_Md_push_93 : decode b_Md_push 93 = .ok (.ifCond .ge 7, 3) := by decide +kernel
theorem d_Md_push_96 : decode b_Md_push 96 = .ok (.iconst 1, 1) := by decide +kernel
theorem d_Md_push_97 : decode b_Md_push 97 = .ok (.goto 4, 3) := by decide +kernel
theorem d_Md_push_100 : decode b_Md_push 100 = .ok (.iconst 0, 1) := by decide +kernel
theorem d_Md_push_101 : decode b_Md_push 101 = .ok (.iadd, 1) := by decide +kernel
theorem d_Md_push_102 : decode b_Md_push 102 = .ok (.iaload, 1) := by decide +kernel
theorem d_Md_push_103 : decode b_Md_push 103 = .ok (.if_icmp .ne 7, 3) := by decide +kernel
theorem d_Md_push_106 : decode b_Md_push 106 = .ok (.iconst 1, 1) := by decide +kernel
theorem d_Md_push_107 : decode b_Md_push 107 = .ok (.goto 4, 3) := by decide +kernel
theorem d_Md_push_110 : decode b_Md_push 110 = .ok (.iconst 0, 1) := by decide +kernel
theorem d_Md_push_111 : decode b_Md_push 111 = .ok (.istore 6, 2) := by decide +kernel
theorem d_Md_push_113 : decode b_Md_push 113 = .ok (.iload 6, 2) := by decide +kernel
theorem d_Md_push_115 : decode b_Md_push 115 = .ok (.ifCond .ne 36, 3) := by decide +kernel
theorem d_Md_push_118 : decode b_Md_push 118 = .ok (.aload_n 0, 1) := by decide +kernel
theorem d_Md_push_119 : decode b_Md_push 119 = .ok (.getfield 90, 3) := by decide +kernel
theorem d_Md_push_122 : decode b_Md_push 122 = .ok (.aload_n 0, 1) := by decide +kernel
theorem d_Md_push_123 : decode b_Md_push 123 = .ok (.getfield 69, 3) := by decide +kernel
theorem d_Md_push_126 : decode b_Md_push 126 = .ok (.iload 4, 2) := by decide +kernel
theorem d_Md_push_128 : decode b_Md_push 128 = .ok (.iaload, 1) := by decide +kernel
theorem d_Md_push_129 : decode b_Md_push 129 = .ok (.iconst 2, 1) := by decide +kernel
theorem d_Md_push_130 : decode b_Md_push 130 = .ok (.ishr, 1) := by decide +kernel
theorem d_Md_push_131 : decode b_Md_push 131 = .ok (.iaload, 1) := by decide +kernel
theorem d_Md_push_132 : decode b_Md_push 132 = .ok (.aload_n 0, 1) := by decide +kernel
theorem d_Md_push_133 : decode b_Md_push 133 = .ok (.getfield 90, 3) := by decide +kernel
theorem d_Md_push_136 : decode b_Md_push 136 = .ok (.aload_n 0, 1) := by decide +kernel
theorem d_Md_push_137 : decode b_Md_push 137 = .ok (.getfield 69, 3) := by decide +kernel
theorem d_Md_push_140 : decode b_Md_push 140 = .ok (.iload 5, 2) := by decide +kernel
theorem d_Md_push_142 : decode b_Md_push 142 = .ok (.iaload, 1) := by decide +kernel
theorem d_Md_push_143 : decode b_Md_push 143 = .ok (.iconst 2, 1) := by decide +kernel
theorem d_Md_push_144 : decode b_Md_push 144 = .ok (.ishr, 1) := by decide +kernel
theorem d_Md_push_145 : decode b_Md_push 145 = .ok (.iaload, 1) := by decide +kernel
theorem d_Md_push_146 : decode b_Md_push 146 = .ok (.if_icmp .ne 5, 3) := by decide +kernel
theorem d_Md_push_149 : decode b_Md_push 149 = .ok (.iconst 0, 1) := by decide +kernel
theorem d_Md_push_150 : decode b_Md_push 150 = .ok (.ireturn, 1) := by decide +kernel
theorem d_Md_push_151 : decode b_Md_push 151 = .ok (.aload_n 0, 1) := by decide +kernel
theorem d_Md_push_152 : decode b_Md_push 152 = .ok (.iconst 0, 1) := by decide +kernel
theorem d_Md_push_153 : decode b_Md_push 153 = .ok (.invokevirtual 385, 3) := by decide +kernel
theorem d_Md_push_156 : decode b_Md_push 156 = .ok (.istore 7, 2) := by decide +kernel
theorem d_Md_push_158 : decode b_Md_push 158 = .ok (.aload_n 0, 1) := by decide +kernel
theorem d_Md_push_159 : decode b_Md_push 159 = .ok (.iload 7, 2) := by decide +kernel
theorem d_Md_push_161 : decode b_Md_push 161 = .ok (.invokevirtual 385, 3) := by decide +kernel
theorem d_Md_push_164 : decode b_Md_push 164 = .ok (.istore 8, 2) := by decide +kernel
theorem d_Md_push_166 : decode b_Md_push 166 = .ok (.aload_n 0, 1) := by decide +kernel
theorem d_Md_push_167 : decode b_Md_push 167 = .ok (.iload 8, 2) := by decide +kernel
theorem d_Md_push_169 : decode b_Md_push 169 = .ok (.invokevirtual 385, 3) := by decide +kernel
theorem d_Md_push_172 : decode b_Md_push 172 = .ok (.istore 9, 2) := by decide +kernel
theorem d_Md_push_174 : decode b_Md_push 174 = .ok (.aload_n 0, 1) := by decide +kernel
theorem d_Md_push_175 : decode b_Md_push 175 = .ok (.iload 9, 2) := by decide +kernel
theorem d_Md_push_177 : decode b_Md_push 177 = .ok (.invokevirtual 385, 3) := by decide +kernel
theorem d_Md_push_180 : decode b_Md_push 180 = .ok (.istore 10, 2) := by decide +kernel
theorem d_Md_push_182 : decode b_Md_push 182 = .ok (.aload_n 0, 1) := by decide +kernel
theorem d_Md_push_183 : decode b_Md_push 183 = .ok (.getfield 37, 3) := by decide +kernel
theorem d_Md_push_186 : decode b_Md_push 186 = .ok (.getfield 318, 3) := by decide +kernel
theorem d_Md_push_189 : decode b_Md_push 189 = .ok (.aload_n 0, 1) := by decide +kernel
theorem d_Md_push_190 : decode b_Md_push 190 = .ok (.getfield 72, 3) := by decide +kernel
theorem d_Md_push_193 : decode b_Md_push 193 = .ok (.iload 4, 2) := by decide +kernel
theorem d_Md_push_195 : decode b_Md_push 195 = .ok (.iaload, 1) := by decide +kernel
theorem d_Md_push_196 : decode b_Md_push 196 = .ok (.iload 8, 2) := by decide +kernel
theorem d_Md_push_198 : decode b_Md_push 198 = .ok (.iastore, 1) := by decide +kernel
theorem d_Md_push_199 : decode b_Md_push 199 = .ok (.aload_n 0, 1) := by decide +kernel
theorem d_Md_push_200 : decode b_Md_push 200 = .ok (.getfield 37, 3) := by decide +kernel
theorem d_Md_push_203 : decode b_Md_push 203 = .ok (.getfield 318, 3) := by decide +kernel
theorem d_Md_push_206 : decode b_Md_push 206 = .ok (.aload_n 0, 1) := by decide +kernel
theorem d_Md_push_207 : decode b_Md_push 207 = .ok (.getfield 72, 3) := by decide +kernel
theorem d_Md_push_210 : decode b_Md_push 210 = .ok (.iload 5, 2) := by decide +kernel
theorem d_Md_push_212 : decode b_Md_push 212 = .ok (.iaload, 1) := by decide +kernel
theorem d_Md_push_213 : decode b_Md_push 213 = .ok (.iload 10, 2) := by decide +kernel
theorem d_Md_push_215 : decode b_Md_push 215 = .ok (.iastore, 1) := by decide +kernel
theorem d_Md_push_216 : decode b_Md_push 216 = .ok (.iload_n 1, 1) := by decide +kernel
theorem d_Md_push_217 : decode b_Md_push 217 = .ok (.ifCond .ge 8, 3) := by decide +kernel
theorem d_Md_push_220 : decode b_Md_push 220 = .ok (.iload 7, 2) := by decide +kernel
theorem d_Md_push_222 : decode b_Md_push 222 = .ok (.goto 10, 3) := by decide +kernel
theorem d_Md_push_225 : decode b_Md_push 225 = .ok (.aload_n 0, 1) := by decide +kernel
theorem d_Md_push_226 : decode b_Md_push 226 = .ok (.getfield 66, 3) := by decide +kernel
theorem d_Md_push_229 : decode b_Md_push 229 = .ok (.iload 4, 2) := by decide +kernel
theorem d_Md_push_231 : decode b_Md_push 231 = .ok (.iaload, 1) := by decide +kernel
theorem d_Md_push_232 : decode b_Md_push 232 = .ok (.istore 11, 2) := by decide +kernel
theorem d_Md_push_234 : decode b_Md_push 234 = .ok (.iload_n 1, 1) := by decide +kernel
theorem d_Md_push_235 : decode b_Md_push 235 = .ok (.ifCond .ge 8, 3) := by decide +kernel
theorem d_Md_push_238 : decode b_Md_push 238 = .ok (.iload 8, 2) := by decide +kernel
theorem d_Md_push_240 : decode b_Md_push 240 = .ok (.goto 5, 3) := by decide +kernel
theorem d_Md_push_243 : decode b_Md_push 243 = .ok (.iload 7, 2) := by decide +kernel
theorem d_Md_push_245 : decode b_Md_push 245 = .ok (.istore 12, 2) := by decide +kernel
theorem d_Md_push_247 : decode b_Md_push 247 = .ok (.iload_n 1, 1) := by decide +kernel
theorem d_Md_push_248 : decode b_Md_push 248 = .ok (.ifCond .ge 13, 3) := by decide +kernel
theorem d_Md_push_251 : decode b_Md_push 251 = .ok (.aload_n 0, 1) := by decide +kernel
theorem d_Md_push_252 : decode b_Md_push 252 = .ok (.getfield 66, 3) := by decide +kernel
theorem d_Md_push_255 : decode b_Md_push 255 = .ok (.iload 4, 2) := by decide +kernel
theorem d_Md_push_257 : decode b_Md_push 257 = .ok (.iaload, 1) := by decide +kernel
theorem d_Md_push_258 : decode b_Md_push 258 = .ok (.goto 5, 3) := by decide +kernel
theorem d_Md_push_261 : decode b_Md_push 261 = .ok (.iload 7, 2) := by decide +kernel
theorem d_Md_push_263 : decode b_Md_push 263 = .ok (.istore 13, 2) := by decide +kernel
theorem d_Md_push_265 : decode b_Md_push 265 = .ok (.iload_n 1, 1) := by decide +kernel
theorem d_Md_push_266 : decode b_Md_push 266 = .ok (.ifCond .ge 8, 3) := by decide +kernel
theorem d_Md_push_269 : decode b_Md_push 269 = .ok (.iload 7, 2) := by decide +kernel
theorem d_Md_push_271 : decode b_Md_push 271 = .ok (.goto 5, 3) := by decide +kernel
theorem d_Md_push_274 : decode b_Md_push 274 = .ok (.iload 8, 2) := by decide +kernel
theorem d_Md_push_276 : decode b_Md_push 276 = .ok (.istore 14, 2) := by decide +kernel
theorem d_Md_push_278 : decode b_Md_push 278 = .ok (.iload_n 3, 1) := by decide +kernel
theorem d_Md_push_279 : decode b_Md_push 279 = .ok (.ifCond .ge 13, 3) := by decide +kernel
theorem d_Md_push_282 : decode b_Md_push 282 = .ok (.aload_n 0, 1) := by decide +kernel
theorem d_Md_push_283 : decode b_Md_push 283 = .ok (.getfield 66, 3) := by decide +kernel
theorem d_Md_push_286 : decode b_Md_push 286 = .ok (.iload 5, 2) := by decide +kernel
theorem d_Md_push_288 : decode b_Md_push 288 = .ok (.iaload, 1) := by decide +kernel
theorem d_Md_push_289 : decode b_Md_push 289 = .ok (.goto 5, 3) := by decide +kernel
theorem d_Md_push_292 : decode b_Md_push 292 = .ok (.iload 9, 2) := by decide +kernel
theorem d_Md_push_294 : decode b_Md_push 294 = .ok (.istore 15, 2) := by decide +kernel
theorem d_Md_push_296 : decode b_Md_push 296 = .ok (.iload_n 3, 1) := by decide +kernel
theorem d_Md_push_297 : decode b_Md_push 297 = .ok (.ifCond .ge 8, 3) := by decide +kernel
theorem d_Md_push_300 : decode b_Md_push 300 = .ok (.iload 9, 2) := by decide +kernel
theorem d_Md_push_302 : decode b_Md_push 302 = .ok (.goto 5, 3) := by decide +kernel
theorem d_Md_push_305 : decode b_Md_push 305 = .ok (.iload 10, 2) := by decide +kernel
theorem d_Md_push_307 : decode b_Md_push 307 = .ok (.istore 16, 2) := by decide +kernel
theorem d_Md_push_309 : decode b_Md_push 309 = .ok (.iload_n 3, 1) := by decide +kernel
theorem d_Md_push_310 : decode b_Md_push 310 = .ok (.ifCond .ge 8, 3) := by decide +kernel
theorem d_Md_push_313 : decode b_Md_push 313 = .ok (.iload 9, 2) := by decide +kernel
theorem d_Md_push_315 : decode b_Md_push 315 = .ok (.goto 10, 3) := by decide +kernel
theorem d_Md_push_318 : decode b_Md_push 318 = .ok (.aload_n 0, 1) := by decide +kernel
theorem d_Md_push_319 : decode b_Md_push 319 = .ok (.getfield 66, 3) := by decide +kernel
theorem d_Md_push_322 : decode b_Md_push 322 = .ok (.iload 5, 2) := by decide +kernel
theorem d_Md_push_324 : decode b_Md_push 324 = .ok (.iaload, 1) := by decide +kernel
theorem d_Md_push_325 : decode b_Md_push 325 = .ok (.istore 17, 2) := by decide +kernel
theorem d_Md_push_327 : decode b_Md_push 327 = .ok (.iload_n 3, 1) := by decide +kernel
theorem d_Md_push_328 : decode b_Md_push 328 = .ok (.ifCond .ge 8, 3) := by decide +kernel
theorem d_Md_push_331 : decode b_Md_push 331 = .ok (.iload 10, 2) := by decide +kernel
theorem d_Md_push_333 : decode b_Md_push 333 = .ok (.goto 5, 3) := by decide +kernel
theorem d_Md_push_336 : decode b_Md_push 336 = .ok (.iload 9, 2) := by decide +kernel
theorem d_Md_push_338 : decode b_Md_push 338 = .ok (.istore 18, 2) := by decide +kernel
theorem d_Md_push_340 : decode b_Md_push 340 = .ok (.iload_n 2, 1) := by decide +kernel
theorem d_Md_push_341 : decode b_Md_push 341 = .ok (.iload_n 1, 1) := by decide +kernel
theorem d_Md_push_342 : decode b_Md_push 342 = .ok (.ifCond .ge 7, 3) := by decide +kernel
theorem d_Md_push_345 : decode b_Md_push 345 = .ok (.iconst 1, 1) := by decide +kernel
theorem d_Md_push_346 : decode b_Md_push 346 = .ok (.goto 4, 3) := by decide +kernel
