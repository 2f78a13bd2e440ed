theorem d_Md_pass_54 : decode b_Md_pass 54 = .ok (.iconst 1, 1) := by decide +kernel
theorem d_Md_pass_55 : decode b_Md_pass 55 = .ok (.iadd, 1) := by decide +kernel
theorem d_Md_pass_56 : decode b_Md_pass 56 = .ok (.if_icmp .ne 7, 3) := by decide +kernel
theorem d_Md_pass_59 : decode b_Md_pass 59 = .ok (.iload_n 2, 1) := by decide +kernel
theorem d_Md_pass_60 : decode b_Md_pass 60 = .ok (.goto 5, 3) := by decide +kernel
theorem d_Md_pass_63 : decode b_Md_pass 63 = .ok (.iload 4, 2) := by decide +kernel
theorem d_Md_pass_65 : decode b_Md_pass 65 = .ok (.iastore, 1) := by decide +kernel
theorem d_Md_pass_66 : decode b_Md_pass 66 = .ok (.iinc 3 1, 3) := by decide +kernel
theorem d_Md_pass_69 : decode b_Md_pass 69 = .ok (.goto (-67), 3) := by decide +kernel
theorem d_Md_pass_72 : decode b_Md_pass 72 = .ok (.aload_n 0, 1) := by decide +kernel
theorem d_Md_pass_73 : decode b_Md_pass 73 = .ok (.getfield 403, 3) := by decide +kernel
theorem d_Md_pass_76 : decode b_Md_pass 76 = .ok (.bipush 9, 2) := by decide +kernel
theorem d_Md_pass_78 : decode b_Md_pass 78 = .ok (.iload_n 1, 1) := by decide +kernel
theorem d_Md_pass_79 : decode b_Md_pass 79 = .ok (.imul, 1) := by decide +kernel
theorem d_Md_pass_80 : decode b_Md_pass 80 = .ok (.iload_n 2, 1) := by decide +kernel
theorem d_Md_pass_81 : decode b_Md_pass 81 = .ok (.iadd, 1) := by decide +kernel
theorem d_Md_pass_82 : decode b_Md_pass 82 = .ok (.iaload, 1) := by decide +kernel
theorem d_Md_pass_83 : decode b_Md_pass 83 = .ok (.istore_n 3, 1) := by decide +kernel
theorem d_Md_pass_84 : decode b_Md_pass 84 = .ok (.aload_n 0, 1) := by decide +kernel
theorem d_Md_pass_85 : decode b_Md_pass 85 = .ok (.getfield 403, 3) := by decide +kernel
theorem d_Md_pass_88 : decode b_Md_pass 88 = .ok (.bipush 9, 2) := by decide +kernel
theorem d_Md_pass_90 : decode b_Md_pass 90 = .ok (.iload_n 1, 1) := by decide +kernel
theorem d_Md_pass_91 : decode b_Md_pass 91 = .ok (.imul, 1) := by decide +kernel
theorem d_Md_pass_92 : decode b_Md_pass 92 = .ok (.iload_n 2, 1) := by decide +kernel
theorem d_Md_pass_93 : decode b_Md_pass 93 = .ok (.iadd, 1) := by decide +kernel
theorem d_Md_pass_94 : decode b_Md_pass 94 = .ok (.aload_n 0, 1) := by decide +kernel
theorem d_Md_pass_95 : decode b_Md_pass 95 = .ok (.getfield 403, 3) := by decide +kernel
theorem d_Md_pass_98 : decode b_Md_pass 98 = .ok (.bipush 9, 2) := by decide +kernel
theorem d_Md_pass_100 : decode b_Md_pass 100 = .ok (.iload_n 1, 1) := by decide +kernel
theorem d_Md_pass_101 : decode b_Md_pass 101 = .ok (.imul, 1) := by decide +kernel
theorem d_Md_pass_102 : decode b_Md_pass 102 = .ok (.iload_n 2, 1) := by decide +kernel
theorem d_Md_pass_103 : decode b_Md_pass 103 = .ok (.iadd, 1) := by decide +kernel
theorem d_Md_pass_104 : decode b_Md_pass 104 = .ok (.iconst 1, 1) := by decide +kernel
theorem d_Md_pass_105 : decode b_Md_pass 105 = .ok (.iadd, 1) := by decide +kernel
theorem d_Md_pass_106 : decode b_Md_pass 106 = .ok (.iaload, 1) := by decide +kernel
theorem d_Md_pass_107 : decode b_Md_pass 107 = .ok (.iastore, 1) := by decide +kernel
theorem d_Md_pass_108 : decode b_Md_pass 108 = .ok (.aload_n 0, 1) := by decide +kernel
theorem d_Md_pass_109 : decode b_Md_pass 109 = .ok (.getfield 403, 3) := by decide +kernel
theorem d_Md_pass_112 : decode b_Md_pass 112 = .ok (.bipush 9, 2) := by decide +kernel
theorem d_Md_pass_114 : decode b_Md_pass 114 = .ok (.iload_n 1, 1) := by decide +kernel
theorem d_Md_pass_115 : decode b_Md_pass 115 = .ok (.imul, 1) := by decide +kernel
theorem d_Md_pass_116 : decode b_Md_pass 116 = .ok (.iload_n 2, 1) := by decide +kernel
theorem d_Md_pass_117 : decode b_Md_pass 117 = .ok (.iadd, 1) := by decide +kernel
theorem d_Md_pass_118 : decode b_Md_pass 118 = .ok (.iconst 1, 1) := by decide +kernel
theorem d_Md_pass_119 : decode b_Md_pass 119 = .ok (.iadd, 1) := by decide +kernel
theorem d_Md_pass_120 : decode b_Md_pass 120 = .ok (.iload_n 3, 1) := by decide +kernel
theorem d_Md_pass_121 : decode b_Md_pass 121 = .ok (.iastore, 1) := by decide +kernel
theorem d_Md_pass_122 : decode b_Md_pass 122 = .ok (.return_, 1) := by decide +kernel
theorem d_Md_perform_0 : decode b_Md_perform 0 = .ok (.aload_n 0, 1) := by decide +kernel
theorem d_Md_perform_1 : decode b_Md_perform 1 = .ok (.invokevirtual 558, 3) := by decide +kernel
theorem d_Md_perform_4 : decode b_Md_perform 4 = .ok (.iload_n 1, 1) := by decide +kernel
theorem d_Md_perform_5 : decode b_Md_perform 5 = .ok (.tableswitch 311 1 15 #[75, 82, 89, 101, 117, 152, 187, 194, 228, 244, 260, 276, 290, 297, 304], 75) := by decide +kernel
theorem d_Md_perform_80 : decode b_Md_perform 80 = .ok (.aload_n 0, 1) := by decide +kernel
theorem d_Md_perform_81 : decode b_Md_perform 81 = .ok (.invokevirtual 622, 3) := by decide +kernel
theorem d_Md_perform_84 : decode b_Md_perform 84 = .ok (.goto 237, 3) := by decide +kernel
theorem d_Md_perform_87 : decode b_Md_perform 87 = .ok (.aload_n 0, 1) := by decide +kernel
theorem d_Md_perform_88 : decode b_Md_perform 88 = .ok (.invokevirtual 625, 3) := by decide +kernel
theorem d_Md_perform_91 : decode b_Md_perform 91 = .ok (.goto 230, 3) := by decide +kernel
theorem d_Md_perform_94 : decode b_Md_perform 94 = .ok (.aload_n 0, 1) := by decide +kernel
theorem d_Md_perform_95 : decode b_Md_perform 95 = .ok (.aload_n 0, 1) := by decide +kernel
theorem d_Md_perform_96 : decode b_Md_perform 96 = .ok (.iconst 0, 1) := by decide +kernel
theorem d_Md_perform_97 : decode b_Md_perform 97 = .ok (.invokevirtual 547, 3) := by decide +kernel
theorem d_Md_perform_100 : decode b_Md_perform 100 = .ok (.invokevirtual 628, 3) := by decide +kernel
theorem d_Md_perform_103 : decode b_Md_perform 103 = .ok (.goto 218, 3) := by decide +kernel
theorem d_Md_perform_106 : decode b_Md_perform 106 = .ok (.aload_n 0, 1) := by decide +kernel
theorem d_Md_perform_107 : decode b_Md_perform 107 = .ok (.aload_n 0, 1) := by decide +kernel
theorem d_Md_perform_108 : decode b_Md_perform 108 = .ok (.aload_n 0, 1) := by decide +kernel
theorem d_Md_perform_109 : decode b_Md_perform 109 = .ok (.iconst 0, 1) := by decide +kernel
theorem d_Md_perform_110 : decode b_Md_perform 110 = .ok (.invokevirtual 547, 3) := by decide +kernel
theorem d_Md_perform_113 : decode b_Md_perform 113 = .ok (.invokevirtual 631, 3) := by decide +kernel
theorem d_Md_perform_116 : decode b_Md_perform 116 = .ok (.invokevirtual 566, 3) := by decide +kernel
theorem d_Md_perform_119 : decode b_Md_perform 119 = .ok (.goto 202, 3) := by decide +kernel
theorem d_Md_perform_122 : decode b_Md_perform 122 = .ok (.aload_n 0, 1) := by decide +kernel
theorem d_Md_perform_123 : decode b_Md_perform 123 = .ok (.aload_n 0, 1) := by decide +kernel
theorem d_Md_perform_124 : decode b_Md_perform 124 = .ok (.aload_n 0, 1) := by decide +kernel
theorem d_Md_perform_125 : decode b_Md_perform 125 = .ok (.iconst 0, 1) := by decide +kernel
theorem d_Md_perform_126 : decode b_Md_perform 126 = .ok (.invokevirtual 547, 3) := by decide +kernel
theorem d_Md_perform_129 : decode b_Md_perform 129 = .ok (.aload_n 0, 1) := by decide +kernel
theorem d_Md_perform_130 : decode b_Md_perform 130 = .ok (.iconst 1, 1) := by decide +kernel
theorem d_Md_perform_131 : decode b_Md_perform 131 = .ok (.invokevirtual 547, 3) := by decide +kernel
theorem d_Md_perform_134 : decode b_Md_perform 134 = .ok (.aload_n 0, 1) := by decide +kernel
theorem d_Md_perform_135 : decode b_Md_perform 135 = .ok (.iconst 2, 1) := by decide +kernel
theorem d_Md_perform_136 : decode b_Md_perform 136 = .ok (.invokevirtual 547, 3) := by decide +kernel
theorem d_Md_perform_139 : decode b_Md_perform 139 = .ok (.iconst 1, 1) := by decide +kernel
theorem d_Md_perform_140 : decode b_Md_perform 140 = .ok (.if_icmp .ne 7, 3) := by decide +kernel
theorem d_Md_perform_143 : decode b_Md_perform 143 = .ok (.iconst 1, 1) := by decide +kernel
theorem d_Md_perform_144 : decode b_Md_perform 144 = .ok (.goto 4, 3) := by decide +kernel
theorem d_Md_perform_147 : decode b_Md_perform 147 = .ok (.iconst 0, 1) := by decide +kernel
theorem d_Md_perform_148 : decode b_Md_perform 148 = .ok (.invokevirtual 634, 3) := by decide +kernel
theorem d_Md_perform_151 : decode b_Md_perform 151 = .ok (.invokevirtual 566, 3) := by decide +kernel
theorem d_Md_perform_154 : decode b_Md_perform 154 = .ok (.goto 167, 3) := by decide +kernel
theorem d_Md_perform_157 : decode b_Md_perform 157 = .ok (.aload_n 0, 1) := by decide +kernel
theorem d_Md_perform_158 : decode b_Md_perform 158 = .ok (.aload_n 0, 1) := by decide +kernel
theorem d_Md_perform_159 : decode b_Md_perform 159 = .ok (.aload_n 0, 1) := by decide +kernel
theorem d_Md_perform_160 : decode b_Md_perform 160 = .ok (.iconst 0, 1) := by decide +kernel
theorem d_Md_perform_161 : decode b_Md_perform 161 = .ok (.invokevirtual 547, 3) := by decide +kernel
theorem d_Md_perform_164 : decode b_Md_perform 164 = .ok (.aload_n 0, 1) := by decide +kernel
theorem d_Md_perform_165 : decode b_Md_perform 165 = .ok (.iconst 1, 1) := by decide +kernel
theorem d_Md_perform_166 : decode b_Md_perform 166 = .ok (.invokevirtual 547, 3) := by decide +kernel
theorem d_Md_perform_169 : decode b_Md_perform 169 = .ok (.iconst 1, 1) := by decide +kernel
theorem d_Md_perform_170 : decode b_Md_perform 170 = .ok (.if_icmp .ne 7, 3) := by decide +kernel
theorem d_Md_perform_173 : decode b_Md_perform 173 = .ok (.iconst 1, 1) := by decide +kernel
theorem d_Md_perform_174 : decode b_Md_perform 174 = .ok (.goto 4, 3) := by decide +kernel
theorem d_Md_perform_177 : decode b_Md_perform 177 = .ok (.iconst 0, 1) := by decide +kernel
theorem d_Md_perform_178 : decode b_Md_perform 178 = .ok (.aload_n 0, 1) := by decide +kernel
theorem d_Md_perform_179 : decode b_Md_perform 179 = .ok (.iconst 2, 1) := by decide +kernel
theorem d_Md_perform_180 : decode b_Md_perform 180 = .ok (.invokevirtual 547, 3) := by decide +kernel
theorem d_Md_perform_183 : decode b_Md_perform 183 = .ok (.invokevirtual 637, 3) := by decide +kernel
theorem d_Md_perform_186 : decode b_Md_perform 186 = .ok (.invokevirtual 566, 3) := by decide +kernel
theorem d_Md_perform_189 : decode b_Md_perform 189 = .ok (.goto 132, 3) := by decide +kernel
theorem d_Md_perform_192 : decode b_Md_perform 192 = .ok (.aload_n 0, 1) := by decide +kernel
theorem d_Md_perform_193 : decode b_Md_perform 193 = .ok (.invokevirtual 640, 3) := by decide +kernel
theorem d_Md_perform_196 : decode b_Md_perform 196 = .ok (.goto 125, 3) := by decide +kernel
theorem d_Md_perform_199 : decode b_Md_perform 199 = .ok (.iconst 0, 1) := by decide +kernel
theorem d_Md_perform_200 : decode b_Md_perform 200 = .ok (.istore_n 2, 1) := by decide +kernel
theorem d_Md_perform_201 : decode b_Md_perform 201 = .ok (.iload_n 2, 1) := by decide +kernel
theorem d_Md_perform_202 : decode b_Md_perform 202 = .ok (.aload_n 0, 1) := by decide +kernel
theorem d_Md_perform_203 : decode b_Md_perform 203 = .ok (.getfield 37, 3) := by decide +kernel
theorem d_Md_perform_206 : decode b_Md_perform 206 = .ok (.getfield 312, 3) := by decide +kernel
theorem d_Md_perform_209 : decode b_Md_perform 209 = .ok (.if_icmp .ge 14, 3) := by decide +kernel
theorem d_Md_perform_212 : decode b_Md_perform 212 = .ok (.aload_n 0, 1) := by decide +kernel
theorem d_Md_perform_213 : decode b_Md_perform 213 = .ok (.iload_n 2, 1) := by decide +kernel
theorem d_Md_perform_214 : decode b_Md_perform 214 = .ok (.invokevirtual 592, 3) := by decide +kernel
theorem d_Md_perform_217 : decode b_Md_perform 217 = .ok (.iinc 2 1, 3) := by decide +kernel
theorem d_Md_perform_220 : decode b_Md_perform 220 = .ok (.goto (-19), 3) := by decide +kernel
theorem d_Md_perform_223 : decode b_Md_perform 223 = .ok (.aload_n 0, 1) := by decide +kernel
theorem d_Md_perform_224 : decode b_Md_perform 224 = .ok (.ldc_w 523, 3) := by decide +kernel
theorem d_Md_perform_227 : decode b_Md_perform 227 = .ok (.invokevirtual 527, 3) := by decide +kernel
theorem d_Md_perform_230 : decode b_Md_perform 230 = .ok (.goto 91, 3) := by decide +kernel
theorem d_Md_perform_233 : decode b_Md_perform 233 = .ok (.aload_n 0, 1) := by decide +kernel
theorem d_Md_perform_234 : decode b_Md_perform 234 = .ok (.aload_n 0, 1) := by decide +kernel
theorem d_Md_perform_235 : decode b_Md_perform 235 = .ok (.aload_n 0, 1) := by decide +kernel
theorem d_Md_perform_236 : decode b_Md_perform 236 = .ok (.iconst 0, 1) := by decide +kernel
theorem d_Md_perform_237 : decode b_Md_perform 237 = .ok (.invokevirtual 547, 3) := by decide +kernel
theorem d_Md_perform_240 : decode b_Md_perform 240 = .ok (.invokevirtual 642, 3) := by decide +kernel
theorem d_Md_perform_243 : decode b_Md_perform 243 = .ok (.invokevirtual 566, 3) := by decide +kernel
theorem d_Md_perform_246 : decode b_Md_perform 246 = .ok (.goto 75, 3) := by decide +kernel
theorem d_Md_perform_249 : decode b_Md_perform 249 = .ok (.aload_n 0, 1) := by decide +kernel
theorem d_Md_perform_250 : decode b_Md_perform 250 = .ok (.aload_n 0, 1) := by decide +kernel
theorem d_Md_perform_251 : decode b_Md_perform 251 = .ok (.aload_n 0, 1) := by decide +kernel
theorem d_Md_perform_252 : decode b_Md_perform 252 = .ok (.iconst 0, 1) := by decide +kernel
theorem d_Md_perform_253 : decode b_Md_perform 253 = .ok (.invokevirtual 547, 3) := by decide +kernel
theorem d_Md_perform_256 : decode b_Md_perform 256 = .ok (.invokevirtual 645, 3) := by decide +kernel
theorem d_Md_perform_259 : decode b_Md_perform 259 = .ok (.invokevirtual 566, 3) := by decide +kernel
theorem d_Md_perform_262 : decode b_Md_perform 262 = .ok (.goto 59, 3) := by decide +kernel
theorem d_Md_perform_265 : decode b_Md_perform 265 = .ok (.aload_n 0, 1) := by decide +kernel
theorem d_Md_perform_266 : decode b_Md_perform 266 = .ok (.aload_n 0, 1) := by decide +kernel
theorem d_Md_perform_267 : decode b_Md_perform 267 = .ok (.aload_n 0, 1) := by decide +kernel
theorem d_Md_perform_268 : decode b_Md_perform 268 = .ok (.iconst 0, 1) := by decide +kernel
theorem d_Md_perform_269 : decode b_Md_perform 269 = .ok (.invokevirtual 547, 3) := by decide +kernel
theorem d_Md_perform_272 : decode b_Md_perform 272 = .ok (.invokevirtual 648, 3) := by decide +kernel
theorem d_Md_perform_275 : decode b_Md_perform 275 = .ok (.invokevirtual 566, 3) := by decide +kernel
theorem d_Md_perform_278 : decode b_Md_perform 278 = .ok (.goto 43, 3) := by decide +kernel
theorem d_Md_perform_281 : decode b_Md_perform 281 = .ok (.aload_n 0, 1) := by decide +kernel
theorem d_Md_perform_282 : decode b_Md_perform 282 = .ok (.invokevirtual 651, 3) := by decide +kernel
theorem d_Md_perform_285 : decode b_Md_perform 285 = .ok (.aload_n 0, 1) := by decide +kernel
theorem d_Md_perform_286 : decode b_Md_perform 286 = .ok (.ldc_w 523, 3) := by decide +kernel
theorem d_Md_perform_289 : decode b_Md_perform 289 = .ok (.invokevirtual 527, 3) := by decide +kernel
theorem d_Md_perform_292 : decode b_Md_perform 292 = .ok (.goto 29, 3) := by decide +kernel
theorem d_Md_perform_295 : decode b_Md_perform 295 = .ok (.aload_n 0, 1) := by decide +kernel
theorem d_Md_perform_296 : decode b_Md_perform 296 = .ok (.invokevirtual 654, 3) := by decide +kernel
theorem d_Md_perform_299 : decode b_Md_perform 299 = .ok (.goto 22, 3) := by decide +kernel
theorem d_Md_perform_302 : decode b_Md_perform 302 = .ok (.aload_n 0, 1) := by decide +kernel
theorem d_Md_perform_303 : decode b_Md_perform 303 = .ok (.invokevirtual 657, 3) := by decide +kernel
theorem d_Md_perform_306 : decode b_Md_perform 306 = .ok (.goto 15, 3) := by decide +kernel
theorem d_Md_perform_309 : decode b_Md_perform 309 = .ok (.aload_n 0, 1) := by decide +kernel
theorem d_Md_perform_310 : decode b_Md_perform 310 = .ok (.invokevirtual 659, 3) := by decide +kernel
theorem d_Md_perform_313 : decode b_Md_perform 313 = .ok (.goto 8, 3) := by decide +kernel
theorem d_Md_perform_316 : decode b_Md_perform 316 = .ok (.aload_n 0, 1) := by decide +kernel
theorem d_Md_perform_317 : decode b_Md_perform 317 = .ok (.iload_n 1, 1) := by decide +kernel
theorem d_Md_perform_318 : decode b_Md_perform 318 = .ok (.invokevirtual 662, 3) := by decide +kernel
theorem d_Md_perform_321 : decode b_Md_perform 321 = .ok (.return_, 1) := by decide +kernel
theorem d_Md_places_0 : decode b_Md_places 0 = .ok (.iconst 0, 1) := by decide +kernel
theorem d_Md_places_1 : decode b_Md_places 1 = .ok (.istore_n 2, 1) := by decide +kernel
theorem d_Md_places_2 : decode b_Md_places 2 = .ok (.iconst 0, 1) := by decide +kernel
theorem d_Md_places_3 : decode b_Md_places 3 = .ok (.istore_n 3, 1) := by decide +kernel
theorem d_Md_places_4 : decode b_Md_places 4 = .ok (.iload_n 3, 1) := by decide +kernel
theorem d_Md_places_5 : decode b_Md_places 5 = .ok (.iconst 4, 1) := by decide +kernel
theorem d_Md_places_6 : decode b_Md_places 6 = .ok (.aload_n 0, 1) := by decide +kernel
theorem d_Md_places_7 : decode b_Md_places 7 = .ok (.getfield 37, 3) := by decide +kernel
theorem d_Md_places_10 : decode b_Md_places 10 = .ok (.getfield 312, 3) := by decide +kernel
theorem d_Md_places_13 : decode b_Md_places 13 = .ok (.imul, 1) := by decide +kernel
theorem d_Md_places_14 : decode b_Md_places 14 = .ok (.if_icmp .ge 30, 3) := by decide +kernel
theorem d_Md_places_17 : decode b_Md_places 17 = .ok (.iload_n 2, 1) := by decide +kernel
theorem d_Md_places_18 : decode b_Md_places 18 = .ok (.aload_n 0, 1) := by decide +kernel
theorem d_Md_places_19 : decode b_Md_places 19 = .ok (.getfield 37, 3) := by decide +kernel
theorem d_Md_places_22 : decode b_Md_places 22 = .ok (.getfield 318, 3) := by decide +kernel
theorem d_Md_places_25 : decode b_Md_places 25 = .ok (.iload_n 3, 1) := by decide +kernel
theorem d_Md_places_26 : decode b_Md_places 26 = .ok (.iaload, 1) := by decide +kernel
theorem d_Md_places_27 : decode b_Md_places 27 = .ok (.iload_n 1, 1) := by decide +kernel
theorem d_Md_places_28 : decode b_Md_places 28 = .ok (.if_icmp .ne 7, 3) := by decide +kernel
theorem d_Md_places_31 : decode b_Md_places 31 = .ok (.iconst 1, 1) := by decide +kernel
theorem d_Md_places_32 : decode b_Md_places 32 = .ok (.goto 4, 3) := by decide +kernel
theorem d_Md_places_35 : decode b_Md_places 35 = .ok (.iconst 0, 1) := by decide +kernel
theorem d_Md_places_36 : decode b_Md_places 36 = .ok (.iadd, 1) := by decide +kernel
theorem d_Md_places_37 : decode b_Md_places 37 = .ok (.istore_n 2, 1) := by decide +kernel
theorem d_Md_places_38 : decode b_Md_places 38 = .ok (.iinc 3 1, 3) := by decide +kernel
theorem d_Md_places_41 : decode b_Md_places 41 = .ok (.goto (-37), 3) := by decide +kernel
theorem d_Md_places_44 : decode b_Md_places 44 = .ok (.iload_n 2, 1) := by decide +kernel
theorem d_Md_places_45 : decode b_Md_places 45 = .ok (.ireturn, 1) := by decide +kernel
