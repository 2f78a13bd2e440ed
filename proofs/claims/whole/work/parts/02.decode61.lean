theorem d_Md_setCode_12 : decode b_Md_setCode 12 = .ok (.iconst 1, 1) := by decide +kernel
theorem d_Md_setCode_13 : decode b_Md_setCode 13 = .ok (.isub, 1) := by decide +kernel
theorem d_Md_setCode_14 : decode b_Md_setCode 14 = .ok (.invokevirtual 547, 3) := by decide +kernel
theorem d_Md_setCode_17 : decode b_Md_setCode 17 = .ok (.istore_n 2, 1) := by decide +kernel
theorem d_Md_setCode_18 : decode b_Md_setCode 18 = .ok (.iload_n 2, 1) := by decide +kernel
theorem d_Md_setCode_19 : decode b_Md_setCode 19 = .ok (.bipush 20, 2) := by decide +kernel
theorem d_Md_setCode_21 : decode b_Md_setCode 21 = .ok (.if_icmp .gt 7, 3) := by decide +kernel
theorem d_Md_setCode_24 : decode b_Md_setCode 24 = .ok (.iconst 1, 1) := by decide +kernel
theorem d_Md_setCode_25 : decode b_Md_setCode 25 = .ok (.goto 4, 3) := by decide +kernel
theorem d_Md_setCode_28 : decode b_Md_setCode 28 = .ok (.iconst 0, 1) := by decide +kernel
theorem d_Md_setCode_29 : decode b_Md_setCode 29 = .ok (.istore_n 3, 1) := by decide +kernel
theorem d_Md_setCode_30 : decode b_Md_setCode 30 = .ok (.iconst 0, 1) := by decide +kernel
theorem d_Md_setCode_31 : decode b_Md_setCode 31 = .ok (.istore 4, 2) := by decide +kernel
theorem d_Md_setCode_33 : decode b_Md_setCode 33 = .ok (.iload 4, 2) := by decide +kernel
theorem d_Md_setCode_35 : decode b_Md_setCode 35 = .ok (.iconst 5, 1) := by decide +kernel
theorem d_Md_setCode_36 : decode b_Md_setCode 36 = .ok (.iload_n 1, 1) := by decide +kernel
theorem d_Md_setCode_37 : decode b_Md_setCode 37 = .ok (.imul, 1) := by decide +kernel
theorem d_Md_setCode_38 : decode b_Md_setCode 38 = .ok (.if_icmp .ge 35, 3) := by decide +kernel
theorem d_Md_setCode_41 : decode b_Md_setCode 41 = .ok (.iload_n 3, 1) := by decide +kernel
theorem d_Md_setCode_42 : decode b_Md_setCode 42 = .ok (.ifCond .eq 23, 3) := by decide +kernel
theorem d_Md_setCode_45 : decode b_Md_setCode 45 = .ok (.iload 4, 2) := by decide +kernel
theorem d_Md_setCode_47 : decode b_Md_setCode 47 = .ok (.iconst 5, 1) := by decide +kernel
theorem d_Md_setCode_48 : decode b_Md_setCode 48 = .ok (.irem, 1) := by decide +kernel
theorem d_Md_setCode_49 : decode b_Md_setCode 49 = .ok (.ifCond .eq 12, 3) := by decide +kernel
theorem d_Md_setCode_52 : decode b_Md_setCode 52 = .ok (.aload_n 0, 1) := by decide +kernel
theorem d_Md_setCode_53 : decode b_Md_setCode 53 = .ok (.iload 4, 2) := by decide +kernel
theorem d_Md_setCode_55 : decode b_Md_setCode 55 = .ok (.invokevirtual 547, 3) := by decide +kernel
theorem d_Md_setCode_58 : decode b_Md_setCode 58 = .ok (.ifCond .le 7, 3) := by decide +kernel
theorem d_Md_setCode_61 : decode b_Md_setCode 61 = .ok (.iconst 1, 1) := by decide +kernel
theorem d_Md_setCode_62 : decode b_Md_setCode 62 = .ok (.goto 4, 3) := by decide +kernel
theorem d_Md_setCode_65 : decode b_Md_setCode 65 = .ok (.iconst 0, 1) := by decide +kernel
theorem d_Md_setCode_66 : decode b_Md_setCode 66 = .ok (.istore_n 3, 1) := by decide +kernel
theorem d_Md_setCode_67 : decode b_Md_setCode 67 = .ok (.iinc 4 1, 3) := by decide +kernel
theorem d_Md_setCode_70 : decode b_Md_setCode 70 = .ok (.goto (-37), 3) := by decide +kernel
theorem d_Md_setCode_73 : decode b_Md_setCode 73 = .ok (.iload_n 3, 1) := by decide +kernel
theorem d_Md_setCode_74 : decode b_Md_setCode 74 = .ok (.ifCond .ne 11, 3) := by decide +kernel
theorem d_Md_setCode_77 : decode b_Md_setCode 77 = .ok (.aload_n 0, 1) := by decide +kernel
theorem d_Md_setCode_78 : decode b_Md_setCode 78 = .ok (.ldc_w 550, 3) := by decide +kernel
theorem d_Md_setCode_81 : decode b_Md_setCode 81 = .ok (.invokevirtual 527, 3) := by decide +kernel
theorem d_Md_setCode_84 : decode b_Md_setCode 84 = .ok (.return_, 1) := by decide +kernel
theorem d_Md_setCode_85 : decode b_Md_setCode 85 = .ok (.aload_n 0, 1) := by decide +kernel
theorem d_Md_setCode_86 : decode b_Md_setCode 86 = .ok (.getfield 41, 3) := by decide +kernel
theorem d_Md_setCode_89 : decode b_Md_setCode 89 = .ok (.aload_n 0, 1) := by decide +kernel
theorem d_Md_setCode_90 : decode b_Md_setCode 90 = .ok (.getfield 37, 3) := by decide +kernel
theorem d_Md_setCode_93 : decode b_Md_setCode 93 = .ok (.invokevirtual 366, 3) := by decide +kernel
theorem d_Md_setCode_96 : decode b_Md_setCode 96 = .ok (.aload_n 0, 1) := by decide +kernel
theorem d_Md_setCode_97 : decode b_Md_setCode 97 = .ok (.getfield 37, 3) := by decide +kernel
theorem d_Md_setCode_100 : decode b_Md_setCode 100 = .ok (.iload_n 1, 1) := by decide +kernel
theorem d_Md_setCode_101 : decode b_Md_setCode 101 = .ok (.putfield 312, 3) := by decide +kernel
theorem d_Md_setCode_104 : decode b_Md_setCode 104 = .ok (.aload_n 0, 1) := by decide +kernel
theorem d_Md_setCode_105 : decode b_Md_setCode 105 = .ok (.getfield 37, 3) := by decide +kernel
theorem d_Md_setCode_108 : decode b_Md_setCode 108 = .ok (.iload_n 2, 1) := by decide +kernel
theorem d_Md_setCode_109 : decode b_Md_setCode 109 = .ok (.putfield 354, 3) := by decide +kernel
theorem d_Md_setCode_112 : decode b_Md_setCode 112 = .ok (.iconst 0, 1) := by decide +kernel
theorem d_Md_setCode_113 : decode b_Md_setCode 113 = .ok (.istore 4, 2) := by decide +kernel
theorem d_Md_setCode_115 : decode b_Md_setCode 115 = .ok (.iload 4, 2) := by decide +kernel
theorem d_Md_setCode_117 : decode b_Md_setCode 117 = .ok (.iload_n 1, 1) := by decide +kernel
theorem d_Md_setCode_118 : decode b_Md_setCode 118 = .ok (.if_icmp .ge 70, 3) := by decide +kernel
theorem d_Md_setCode_121 : decode b_Md_setCode 121 = .ok (.aload_n 0, 1) := by decide +kernel
theorem d_Md_setCode_122 : decode b_Md_setCode 122 = .ok (.getfield 37, 3) := by decide +kernel
theorem d_Md_setCode_125 : decode b_Md_setCode 125 = .ok (.getfield 306, 3) := by decide +kernel
theorem d_Md_setCode_128 : decode b_Md_setCode 128 = .ok (.iload 4, 2) := by decide +kernel
theorem d_Md_setCode_130 : decode b_Md_setCode 130 = .ok (.aload_n 0, 1) := by decide +kernel
theorem d_Md_setCode_131 : decode b_Md_setCode 131 = .ok (.iconst 5, 1) := by decide +kernel
theorem d_Md_setCode_132 : decode b_Md_setCode 132 = .ok (.iload 4, 2) := by decide +kernel
theorem d_Md_setCode_134 : decode b_Md_setCode 134 = .ok (.imul, 1) := by decide +kernel
theorem d_Md_setCode_135 : decode b_Md_setCode 135 = .ok (.invokevirtual 547, 3) := by decide +kernel
theorem d_Md_setCode_138 : decode b_Md_setCode 138 = .ok (.iastore, 1) := by decide +kernel
theorem d_Md_setCode_139 : decode b_Md_setCode 139 = .ok (.iconst 0, 1) := by decide +kernel
theorem d_Md_setCode_140 : decode b_Md_setCode 140 = .ok (.istore 5, 2) := by decide +kernel
theorem d_Md_setCode_142 : decode b_Md_setCode 142 = .ok (.iload 5, 2) := by decide +kernel
theorem d_Md_setCode_144 : decode b_Md_setCode 144 = .ok (.iconst 4, 1) := by decide +kernel
theorem d_Md_setCode_145 : decode b_Md_setCode 145 = .ok (.if_icmp .ge 37, 3) := by decide +kernel
theorem d_Md_setCode_148 : decode b_Md_setCode 148 = .ok (.aload_n 0, 1) := by decide +kernel
theorem d_Md_setCode_149 : decode b_Md_setCode 149 = .ok (.getfield 37, 3) := by decide +kernel
theorem d_Md_setCode_152 : decode b_Md_setCode 152 = .ok (.getfield 318, 3) := by decide +kernel
theorem d_Md_setCode_155 : decode b_Md_setCode 155 = .ok (.iconst 4, 1) := by decide +kernel
theorem d_Md_setCode_156 : decode b_Md_setCode 156 = .ok (.iload 4, 2) := by decide +kernel
theorem d_Md_setCode_158 : decode b_Md_setCode 158 = .ok (.imul, 1) := by decide +kernel
theorem d_Md_setCode_159 : decode b_Md_setCode 159 = .ok (.iload 5, 2) := by decide +kernel
theorem d_Md_setCode_161 : decode b_Md_setCode 161 = .ok (.iadd, 1) := by decide +kernel
theorem d_Md_setCode_162 : decode b_Md_setCode 162 = .ok (.aload_n 0, 1) := by decide +kernel
theorem d_Md_setCode_163 : decode b_Md_setCode 163 = .ok (.iconst 5, 1) := by decide +kernel
theorem d_Md_setCode_164 : decode b_Md_setCode 164 = .ok (.iload 4, 2) := by decide +kernel
theorem d_Md_setCode_166 : decode b_Md_setCode 166 = .ok (.imul, 1) := by decide +kernel
theorem d_Md_setCode_167 : decode b_Md_setCode 167 = .ok (.iconst 1, 1) := by decide +kernel
theorem d_Md_setCode_168 : decode b_Md_setCode 168 = .ok (.iadd, 1) := by decide +kernel
theorem d_Md_setCode_169 : decode b_Md_setCode 169 = .ok (.iload 5, 2) := by decide +kernel
theorem d_Md_setCode_171 : decode b_Md_setCode 171 = .ok (.iadd, 1) := by decide +kernel
theorem d_Md_setCode_172 : decode b_Md_setCode 172 = .ok (.invokevirtual 547, 3) := by decide +kernel
theorem d_Md_setCode_175 : decode b_Md_setCode 175 = .ok (.iastore, 1) := by decide +kernel
theorem d_Md_setCode_176 : decode b_Md_setCode 176 = .ok (.iinc 5 1, 3) := by decide +kernel
theorem d_Md_setCode_179 : decode b_Md_setCode 179 = .ok (.goto (-37), 3) := by decide +kernel
theorem d_Md_setCode_182 : decode b_Md_setCode 182 = .ok (.iinc 4 1, 3) := by decide +kernel
theorem d_Md_setCode_185 : decode b_Md_setCode 185 = .ok (.goto (-70), 3) := by decide +kernel
theorem d_Md_setCode_188 : decode b_Md_setCode 188 = .ok (.iconst 0, 1) := by decide +kernel
theorem d_Md_setCode_189 : decode b_Md_setCode 189 = .ok (.istore 4, 2) := by decide +kernel
theorem d_Md_setCode_191 : decode b_Md_setCode 191 = .ok (.aload_n 0, 1) := by decide +kernel
theorem d_Md_setCode_192 : decode b_Md_setCode 192 = .ok (.invokevirtual 552, 3) := by decide +kernel
theorem d_Md_setCode_195 : decode b_Md_setCode 195 = .ok (.istore 5, 2) := by decide +kernel
theorem d_Md_setCode_197 : decode b_Md_setCode 197 = .ok (.iload 5, 2) := by decide +kernel
theorem d_Md_setCode_199 : decode b_Md_setCode 199 = .ok (.ifCond .le 6, 3) := by decide +kernel
theorem d_Md_setCode_202 : decode b_Md_setCode 202 = .ok (.iconst 1, 1) := by decide +kernel
theorem d_Md_setCode_203 : decode b_Md_setCode 203 = .ok (.istore 4, 2) := by decide +kernel
theorem d_Md_setCode_205 : decode b_Md_setCode 205 = .ok (.iload 4, 2) := by decide +kernel
theorem d_Md_setCode_207 : decode b_Md_setCode 207 = .ok (.ifCond .ne 21, 3) := by decide +kernel
theorem d_Md_setCode_210 : decode b_Md_setCode 210 = .ok (.aload_n 0, 1) := by decide +kernel
theorem d_Md_setCode_211 : decode b_Md_setCode 211 = .ok (.invokevirtual 555, 3) := by decide +kernel
theorem d_Md_setCode_214 : decode b_Md_setCode 214 = .ok (.istore 5, 2) := by decide +kernel
theorem d_Md_setCode_216 : decode b_Md_setCode 216 = .ok (.iload 5, 2) := by decide +kernel
theorem d_Md_setCode_218 : decode b_Md_setCode 218 = .ok (.ifCond .le 7, 3) := by decide +kernel
theorem d_Md_setCode_221 : decode b_Md_setCode 221 = .ok (.iconst 2, 1) := by decide +kernel
theorem d_Md_setCode_222 : decode b_Md_setCode 222 = .ok (.goto 4, 3) := by decide +kernel
theorem d_Md_setCode_225 : decode b_Md_setCode 225 = .ok (.iconst 0, 1) := by decide +kernel
theorem d_Md_setCode_226 : decode b_Md_setCode 226 = .ok (.istore 4, 2) := by decide +kernel
theorem d_Md_setCode_228 : decode b_Md_setCode 228 = .ok (.iload 4, 2) := by decide +kernel
theorem d_Md_setCode_230 : decode b_Md_setCode 230 = .ok (.ifCond .ne 25, 3) := by decide +kernel
theorem d_Md_setCode_233 : decode b_Md_setCode 233 = .ok (.aload_n 0, 1) := by decide +kernel
theorem d_Md_setCode_234 : decode b_Md_setCode 234 = .ok (.invokevirtual 558, 3) := by decide +kernel
theorem d_Md_setCode_237 : decode b_Md_setCode 237 = .ok (.aload_n 0, 1) := by decide +kernel
theorem d_Md_setCode_238 : decode b_Md_setCode 238 = .ok (.invokevirtual 561, 3) := by decide +kernel
theorem d_Md_setCode_241 : decode b_Md_setCode 241 = .ok (.istore 5, 2) := by decide +kernel
theorem d_Md_setCode_243 : decode b_Md_setCode 243 = .ok (.iload 5, 2) := by decide +kernel
theorem d_Md_setCode_245 : decode b_Md_setCode 245 = .ok (.ifCond .lt 7, 3) := by decide +kernel
theorem d_Md_setCode_248 : decode b_Md_setCode 248 = .ok (.iconst 3, 1) := by decide +kernel
theorem d_Md_setCode_249 : decode b_Md_setCode 249 = .ok (.goto 4, 3) := by decide +kernel
theorem d_Md_setCode_252 : decode b_Md_setCode 252 = .ok (.iconst 0, 1) := by decide +kernel
theorem d_Md_setCode_253 : decode b_Md_setCode 253 = .ok (.istore 4, 2) := by decide +kernel
theorem d_Md_setCode_255 : decode b_Md_setCode 255 = .ok (.iload 4, 2) := by decide +kernel
theorem d_Md_setCode_257 : decode b_Md_setCode 257 = .ok (.ifCond .ne 11, 3) := by decide +kernel
theorem d_Md_setCode_260 : decode b_Md_setCode 260 = .ok (.aload_n 0, 1) := by decide +kernel
theorem d_Md_setCode_261 : decode b_Md_setCode 261 = .ok (.ldc_w 523, 3) := by decide +kernel
theorem d_Md_setCode_264 : decode b_Md_setCode 264 = .ok (.invokevirtual 527, 3) := by decide +kernel
theorem d_Md_setCode_267 : decode b_Md_setCode 267 = .ok (.return_, 1) := by decide +kernel
theorem d_Md_setCode_268 : decode b_Md_setCode 268 = .ok (.aload_n 0, 1) := by decide +kernel
theorem d_Md_setCode_269 : decode b_Md_setCode 269 = .ok (.getfield 37, 3) := by decide +kernel
theorem d_Md_setCode_272 : decode b_Md_setCode 272 = .ok (.aload_n 0, 1) := by decide +kernel
theorem d_Md_setCode_273 : decode b_Md_setCode 273 = .ok (.getfield 41, 3) := by decide +kernel
theorem d_Md_setCode_276 : decode b_Md_setCode 276 = .ok (.invokevirtual 366, 3) := by decide +kernel
theorem d_Md_setCode_279 : decode b_Md_setCode 279 = .ok (.aload_n 0, 1) := by decide +kernel
theorem d_Md_setCode_280 : decode b_Md_setCode 280 = .ok (.ldc_w 564, 3) := by decide +kernel
theorem d_Md_setCode_283 : decode b_Md_setCode 283 = .ok (.invokevirtual 519, 3) := by decide +kernel
theorem d_Md_setCode_286 : decode b_Md_setCode 286 = .ok (.aload_n 0, 1) := by decide +kernel
theorem d_Md_setCode_287 : decode b_Md_setCode 287 = .ok (.iload 4, 2) := by decide +kernel
theorem d_Md_setCode_289 : decode b_Md_setCode 289 = .ok (.i2l, 1) := by decide +kernel
theorem d_Md_setCode_290 : decode b_Md_setCode 290 = .ok (.invokevirtual 536, 3) := by decide +kernel
theorem d_Md_setCode_293 : decode b_Md_setCode 293 = .ok (.aload_n 0, 1) := by decide +kernel
theorem d_Md_setCode_294 : decode b_Md_setCode 294 = .ok (.iload 5, 2) := by decide +kernel
theorem d_Md_setCode_296 : decode b_Md_setCode 296 = .ok (.i2l, 1) := by decide +kernel
theorem d_Md_setCode_297 : decode b_Md_setCode 297 = .ok (.invokevirtual 536, 3) := by decide +kernel
theorem d_Md_setCode_300 : decode b_Md_setCode 300 = .ok (.aload_n 0, 1) := by decide +kernel
theorem d_Md_setCode_301 : decode b_Md_setCode 301 = .ok (.bipush 10, 2) := by decide +kernel
theorem d_Md_setCode_303 : decode b_Md_setCode 303 = .ok (.invokevirtual 509, 3) := by decide +kernel
theorem d_Md_setCode_306 : decode b_Md_setCode 306 = .ok (.return_, 1) := by decide +kernel
theorem d_Md_signed_0 : decode b_Md_signed 0 = .ok (.aload_n 0, 1) := by decide +kernel
theorem d_Md_signed_1 : decode b_Md_signed 1 = .ok (.bipush 45, 2) := by decide +kernel
theorem d_Md_signed_3 : decode b_Md_signed 3 = .ok (.invokevirtual 176, 3) := by decide +kernel
theorem d_Md_signed_6 : decode b_Md_signed 6 = .ok (.istore_n 1, 1) := by decide +kernel
theorem d_Md_signed_7 : decode b_Md_signed 7 = .ok (.iload_n 1, 1) := by decide +kernel
theorem d_Md_signed_8 : decode b_Md_signed 8 = .ok (.ifCond .eq 7, 3) := by decide +kernel
theorem d_Md_signed_11 : decode b_Md_signed 11 = .ok (.aload_n 0, 1) := by decide +kernel
theorem d_Md_signed_12 : decode b_Md_signed 12 = .ok (.invokevirtual 179, 3) := by decide +kernel
theorem d_Md_signed_15 : decode b_Md_signed 15 = .ok (.aload_n 0, 1) := by decide +kernel
theorem d_Md_signed_16 : decode b_Md_signed 16 = .ok (.iconst 0, 1) := by decide +kernel
theorem d_Md_signed_17 : decode b_Md_signed 17 = .ok (.invokevirtual 185, 3) := by decide +kernel
theorem d_Md_signed_20 : decode b_Md_signed 20 = .ok (.lstore_n 2, 1) := by decide +kernel
theorem d_Md_signed_21 : decode b_Md_signed 21 = .ok (.iload_n 1, 1) := by decide +kernel
theorem d_Md_signed_22 : decode b_Md_signed 22 = .ok (.ifCond .eq 8, 3) := by decide +kernel
theorem d_Md_signed_25 : decode b_Md_signed 25 = .ok (.lload_n 2, 1) := by decide +kernel
theorem d_Md_signed_26 : decode b_Md_signed 26 = .ok (.lneg, 1) := by decide +kernel
theorem d_Md_signed_27 : decode b_Md_signed 27 = .ok (.goto 4, 3) := by decide +kernel
theorem d_Md_signed_30 : decode b_Md_signed 30 = .ok (.lload_n 2, 1) := by decide +kernel
theorem d_Md_signed_31 : decode b_Md_signed 31 = .ok (.lreturn, 1) := by decide +kernel
theorem d_Md_signs_0 : decode b_Md_signs 0 = .ok (.iconst 0, 1) := by decide +kernel
theorem d_Md_signs_1 : decode b_Md_signs 1 = .ok (.istore_n 1, 1) := by decide +kernel
theorem d_Md_signs_2 : decode b_Md_signs 2 = .ok (.iconst 0, 1) := by decide +kernel
theorem d_Md_signs_3 : decode b_Md_signs 3 = .ok (.istore_n 2, 1) := by decide +kernel
theorem d_Md_signs_4 : decode b_Md_signs 4 = .ok (.iload_n 2, 1) := by decide +kernel
theorem d_Md_signs_5 : decode b_Md_signs 5 = .ok (.aload_n 0, 1) := by decide +kernel
theorem d_Md_signs_6 : decode b_Md_signs 6 = .ok (.getfield 37, 3) := by decide +kernel
theorem d_Md_signs_9 : decode b_Md_signs 9 = .ok (.getfield 312, 3) := by decide +kernel
theorem d_Md_signs_12 : decode b_Md_signs 12 = .ok (.if_icmp .ge 21, 3) := by decide +kernel
theorem d_Md_signs_15 : decode b_Md_signs 15 = .ok (.iload_n 1, 1) := by decide +kernel
theorem d_Md_signs_16 : decode b_Md_signs 16 = .ok (.aload_n 0, 1) := by decide +kernel
theorem d_Md_signs_17 : decode b_Md_signs 17 = .ok (.getfield 37, 3) := by decide +kernel
theorem d_Md_signs_20 : decode b_Md_signs 20 = .ok (.getfield 306, 3) := by decide +kernel
theorem d_Md_signs_23 : decode b_Md_signs 23 = .ok (.iload_n 2, 1) := by decide +kernel
theorem d_Md_signs_24 : decode b_Md_signs 24 = .ok (.iaload, 1) := by decide +kernel
theorem d_Md_signs_25 : decode b_Md_signs 25 = .ok (.iadd, 1) := by decide +kernel
theorem d_Md_signs_26 : decode b_Md_signs 26 = .ok (.istore_n 1, 1) := by decide +kernel
theorem d_Md_signs_27 : decode b_Md_signs 27 = .ok (.iinc 2 1, 3) := by decide +kernel
theorem d_Md_signs_30 : decode b_Md_signs 30 = .ok (.goto (-26), 3) := by decide +kernel
theorem d_Md_signs_33 : decode b_Md_signs 33 = .ok (.iload_n 1, 1) := by decide +kernel
theorem d_Md_signs_34 : decode b_Md_signs 34 = .ok (.ireturn, 1) := by decide +kernel
theorem d_Md_simplify_0 : decode b_Md_simplify 0 = .ok (.iconst 0, 1) := by decide +kernel
theorem d_Md_simplify_1 : decode b_Md_simplify 1 = .ok (.istore_n 1, 1) := by decide +kernel
theorem d_Md_simplify_2 : decode b_Md_simplify 2 = .ok (.iconst 1, 1) := by decide +kernel
theorem d_Md_simplify_3 : decode b_Md_simplify 3 = .ok (.istore_n 2, 1) := by decide +kernel
theorem d_Md_simplify_4 : decode b_Md_simplify 4 = .ok (.iload_n 2, 1) := by decide +kernel
theorem d_Md_simplify_5 : decode b_Md_simplify 5 = .ok (.ifCond .eq 80, 3) := by decide +kernel
