theorem d_law_453 : decode code 453 = .ok (.iinc 3 6, 3) := by decide +kernel
theorem d_law_456 : decode code 456 = .ok (.goto (-438), 3) := by decide +kernel
theorem d_law_459 : decode code 459 = .ok (.iconst 1, 1) := by decide +kernel
theorem d_law_460 : decode code 460 = .ok (.ireturn, 1) := by decide +kernel
theorem d_Md_init_0 : decode b_Md_init 0 = .ok (.aload_n 0, 1) := by decide +kernel
theorem d_Md_init_1 : decode b_Md_init 1 = .ok (.invokespecial 1, 3) := by decide +kernel
theorem d_Md_init_4 : decode b_Md_init 4 = .ok (.aload_n 0, 1) := by decide +kernel
theorem d_Md_init_5 : decode b_Md_init 5 = .ok (.sipush 4000, 3) := by decide +kernel
theorem d_Md_init_8 : decode b_Md_init 8 = .ok (.newarray .byte, 2) := by decide +kernel
theorem d_Md_init_10 : decode b_Md_init 10 = .ok (.putfield 9, 3) := by decide +kernel
theorem d_Md_init_13 : decode b_Md_init 13 = .ok (.aload_n 0, 1) := by decide +kernel
theorem d_Md_init_14 : decode b_Md_init 14 = .ok (.sipush 4000, 3) := by decide +kernel
theorem d_Md_init_17 : decode b_Md_init 17 = .ok (.newarray .byte, 2) := by decide +kernel
theorem d_Md_init_19 : decode b_Md_init 19 = .ok (.putfield 13, 3) := by decide +kernel
theorem d_Md_init_22 : decode b_Md_init 22 = .ok (.aload_n 0, 1) := by decide +kernel
theorem d_Md_init_23 : decode b_Md_init 23 = .ok (.sipush 4000, 3) := by decide +kernel
theorem d_Md_init_26 : decode b_Md_init 26 = .ok (.newarray .byte, 2) := by decide +kernel
theorem d_Md_init_28 : decode b_Md_init 28 = .ok (.putfield 16, 3) := by decide +kernel
theorem d_Md_init_31 : decode b_Md_init 31 = .ok (.aload_n 0, 1) := by decide +kernel
theorem d_Md_init_32 : decode b_Md_init 32 = .ok (.iconst (-1), 1) := by decide +kernel
theorem d_Md_init_33 : decode b_Md_init 33 = .ok (.putfield 19, 3) := by decide +kernel
theorem d_Md_init_36 : decode b_Md_init 36 = .ok (.aload_n 0, 1) := by decide +kernel
theorem d_Md_init_37 : decode b_Md_init 37 = .ok (.bipush 65, 2) := by decide +kernel
theorem d_Md_init_39 : decode b_Md_init 39 = .ok (.newarray .int, 2) := by decide +kernel
theorem d_Md_init_41 : decode b_Md_init 41 = .ok (.putfield 23, 3) := by decide +kernel
theorem d_Md_init_44 : decode b_Md_init 44 = .ok (.aload_n 0, 1) := by decide +kernel
theorem d_Md_init_45 : decode b_Md_init 45 = .ok (.bipush 66, 2) := by decide +kernel
theorem d_Md_init_47 : decode b_Md_init 47 = .ok (.newarray .int, 2) := by decide +kernel
theorem d_Md_init_49 : decode b_Md_init 49 = .ok (.putfield 27, 3) := by decide +kernel
theorem d_Md_init_52 : decode b_Md_init 52 = .ok (.aload_n 0, 1) := by decide +kernel
theorem d_Md_init_53 : decode b_Md_init 53 = .ok (.sipush 9000, 3) := by decide +kernel
theorem d_Md_init_56 : decode b_Md_init 56 = .ok (.newarray .long, 2) := by decide +kernel
theorem d_Md_init_58 : decode b_Md_init 58 = .ok (.putfield 30, 3) := by decide +kernel
theorem d_Md_init_61 : decode b_Md_init 61 = .ok (.aload_n 0, 1) := by decide +kernel
theorem d_Md_init_62 : decode b_Md_init 62 = .ok (.new 34, 3) := by decide +kernel
theorem d_Md_init_65 : decode b_Md_init 65 = .ok (.dup, 1) := by decide +kernel
theorem d_Md_init_66 : decode b_Md_init 66 = .ok (.invokespecial 36, 3) := by decide +kernel
theorem d_Md_init_69 : decode b_Md_init 69 = .ok (.putfield 37, 3) := by decide +kernel
theorem d_Md_init_72 : decode b_Md_init 72 = .ok (.aload_n 0, 1) := by decide +kernel
theorem d_Md_init_73 : decode b_Md_init 73 = .ok (.new 34, 3) := by decide +kernel
theorem d_Md_init_76 : decode b_Md_init 76 = .ok (.dup, 1) := by decide +kernel
theorem d_Md_init_77 : decode b_Md_init 77 = .ok (.invokespecial 36, 3) := by decide +kernel
theorem d_Md_init_80 : decode b_Md_init 80 = .ok (.putfield 41, 3) := by decide +kernel
theorem d_Md_init_83 : decode b_Md_init 83 = .ok (.aload_n 0, 1) := by decide +kernel
theorem d_Md_init_84 : decode b_Md_init 84 = .ok (.new 34, 3) := by decide +kernel
theorem d_Md_init_87 : decode b_Md_init 87 = .ok (.dup, 1) := by decide +kernel
theorem d_Md_init_88 : decode b_Md_init 88 = .ok (.invokespecial 36, 3) := by decide +kernel
theorem d_Md_init_91 : decode b_Md_init 91 = .ok (.putfield 44, 3) := by decide +kernel
theorem d_Md_init_94 : decode b_Md_init 94 = .ok (.aload_n 0, 1) := by decide +kernel
theorem d_Md_init_95 : decode b_Md_init 95 = .ok (.new 47, 3) := by decide +kernel
theorem d_Md_init_98 : decode b_Md_init 98 = .ok (.dup, 1) := by decide +kernel
theorem d_Md_init_99 : decode b_Md_init 99 = .ok (.invokespecial 49, 3) := by decide +kernel
theorem d_Md_init_102 : decode b_Md_init 102 = .ok (.putfield 50, 3) := by decide +kernel
theorem d_Md_init_105 : decode b_Md_init 105 = .ok (.aload_n 0, 1) := by decide +kernel
theorem d_Md_init_106 : decode b_Md_init 106 = .ok (.new 47, 3) := by decide +kernel
theorem d_Md_init_109 : decode b_Md_init 109 = .ok (.dup, 1) := by decide +kernel
theorem d_Md_init_110 : decode b_Md_init 110 = .ok (.invokespecial 49, 3) := by decide +kernel
theorem d_Md_init_113 : decode b_Md_init 113 = .ok (.putfield 54, 3) := by decide +kernel
theorem d_Md_init_116 : decode b_Md_init 116 = .ok (.aload_n 0, 1) := by decide +kernel
theorem d_Md_init_117 : decode b_Md_init 117 = .ok (.new 47, 3) := by decide +kernel
theorem d_Md_init_120 : decode b_Md_init 120 = .ok (.dup, 1) := by decide +kernel
theorem d_Md_init_121 : decode b_Md_init 121 = .ok (.invokespecial 49, 3) := by decide +kernel
theorem d_Md_init_124 : decode b_Md_init 124 = .ok (.putfield 57, 3) := by decide +kernel
theorem d_Md_init_127 : decode b_Md_init 127 = .ok (.aload_n 0, 1) := by decide +kernel
theorem d_Md_init_128 : decode b_Md_init 128 = .ok (.new 47, 3) := by decide +kernel
theorem d_Md_init_131 : decode b_Md_init 131 = .ok (.dup, 1) := by decide +kernel
theorem d_Md_init_132 : decode b_Md_init 132 = .ok (.invokespecial 49, 3) := by decide +kernel
theorem d_Md_init_135 : decode b_Md_init 135 = .ok (.putfield 60, 3) := by decide +kernel
theorem d_Md_init_138 : decode b_Md_init 138 = .ok (.aload_n 0, 1) := by decide +kernel
theorem d_Md_init_139 : decode b_Md_init 139 = .ok (.sipush 8000, 3) := by decide +kernel
theorem d_Md_init_142 : decode b_Md_init 142 = .ok (.newarray .byte, 2) := by decide +kernel
theorem d_Md_init_144 : decode b_Md_init 144 = .ok (.putfield 63, 3) := by decide +kernel
theorem d_Md_init_147 : decode b_Md_init 147 = .ok (.aload_n 0, 1) := by decide +kernel
theorem d_Md_init_148 : decode b_Md_init 148 = .ok (.bipush 48, 2) := by decide +kernel
theorem d_Md_init_150 : decode b_Md_init 150 = .ok (.newarray .int, 2) := by decide +kernel
theorem d_Md_init_152 : decode b_Md_init 152 = .ok (.putfield 66, 3) := by decide +kernel
theorem d_Md_init_155 : decode b_Md_init 155 = .ok (.aload_n 0, 1) := by decide +kernel
theorem d_Md_init_156 : decode b_Md_init 156 = .ok (.bipush 48, 2) := by decide +kernel
theorem d_Md_init_158 : decode b_Md_init 158 = .ok (.newarray .int, 2) := by decide +kernel
theorem d_Md_init_160 : decode b_Md_init 160 = .ok (.putfield 69, 3) := by decide +kernel
theorem d_Md_init_163 : decode b_Md_init 163 = .ok (.aload_n 0, 1) := by decide +kernel
theorem d_Md_init_164 : decode b_Md_init 164 = .ok (.bipush 48, 2) := by decide +kernel
theorem d_Md_init_166 : decode b_Md_init 166 = .ok (.newarray .int, 2) := by decide +kernel
theorem d_Md_init_168 : decode b_Md_init 168 = .ok (.putfield 72, 3) := by decide +kernel
theorem d_Md_init_171 : decode b_Md_init 171 = .ok (.aload_n 0, 1) := by decide +kernel
theorem d_Md_init_172 : decode b_Md_init 172 = .ok (.bipush 48, 2) := by decide +kernel
theorem d_Md_init_174 : decode b_Md_init 174 = .ok (.newarray .int, 2) := by decide +kernel
theorem d_Md_init_176 : decode b_Md_init 176 = .ok (.putfield 75, 3) := by decide +kernel
theorem d_Md_init_179 : decode b_Md_init 179 = .ok (.aload_n 0, 1) := by decide +kernel
theorem d_Md_init_180 : decode b_Md_init 180 = .ok (.bipush 48, 2) := by decide +kernel
theorem d_Md_init_182 : decode b_Md_init 182 = .ok (.newarray .int, 2) := by decide +kernel
theorem d_Md_init_184 : decode b_Md_init 184 = .ok (.putfield 78, 3) := by decide +kernel
theorem d_Md_init_187 : decode b_Md_init 187 = .ok (.aload_n 0, 1) := by decide +kernel
theorem d_Md_init_188 : decode b_Md_init 188 = .ok (.bipush 96, 2) := by decide +kernel
theorem d_Md_init_190 : decode b_Md_init 190 = .ok (.newarray .int, 2) := by decide +kernel
theorem d_Md_init_192 : decode b_Md_init 192 = .ok (.putfield 81, 3) := by decide +kernel
theorem d_Md_init_195 : decode b_Md_init 195 = .ok (.aload_n 0, 1) := by decide +kernel
theorem d_Md_init_196 : decode b_Md_init 196 = .ok (.bipush 96, 2) := by decide +kernel
theorem d_Md_init_198 : decode b_Md_init 198 = .ok (.newarray .int, 2) := by decide +kernel
theorem d_Md_init_200 : decode b_Md_init 200 = .ok (.putfield 84, 3) := by decide +kernel
theorem d_Md_init_203 : decode b_Md_init 203 = .ok (.aload_n 0, 1) := by decide +kernel
theorem d_Md_init_204 : decode b_Md_init 204 = .ok (.bipush 96, 2) := by decide +kernel
theorem d_Md_init_206 : decode b_Md_init 206 = .ok (.newarray .int, 2) := by decide +kernel
theorem d_Md_init_208 : decode b_Md_init 208 = .ok (.putfield 87, 3) := by decide +kernel
theorem d_Md_init_211 : decode b_Md_init 211 = .ok (.aload_n 0, 1) := by decide +kernel
theorem d_Md_init_212 : decode b_Md_init 212 = .ok (.bipush 24, 2) := by decide +kernel
theorem d_Md_init_214 : decode b_Md_init 214 = .ok (.newarray .int, 2) := by decide +kernel
theorem d_Md_init_216 : decode b_Md_init 216 = .ok (.putfield 90, 3) := by decide +kernel
theorem d_Md_init_219 : decode b_Md_init 219 = .ok (.aload_n 0, 1) := by decide +kernel
theorem d_Md_init_220 : decode b_Md_init 220 = .ok (.bipush 9, 2) := by decide +kernel
theorem d_Md_init_222 : decode b_Md_init 222 = .ok (.newarray .int, 2) := by decide +kernel
theorem d_Md_init_224 : decode b_Md_init 224 = .ok (.putfield 93, 3) := by decide +kernel
theorem d_Md_init_227 : decode b_Md_init 227 = .ok (.aload_n 0, 1) := by decide +kernel
theorem d_Md_init_228 : decode b_Md_init 228 = .ok (.sipush 201, 3) := by decide +kernel
theorem d_Md_init_231 : decode b_Md_init 231 = .ok (.newarray .long, 2) := by decide +kernel
theorem d_Md_init_233 : decode b_Md_init 233 = .ok (.putfield 96, 3) := by decide +kernel
theorem d_Md_init_236 : decode b_Md_init 236 = .ok (.aload_n 0, 1) := by decide +kernel
theorem d_Md_init_237 : decode b_Md_init 237 = .ok (.sipush 201, 3) := by decide +kernel
theorem d_Md_init_240 : decode b_Md_init 240 = .ok (.newarray .long, 2) := by decide +kernel
theorem d_Md_init_242 : decode b_Md_init 242 = .ok (.putfield 99, 3) := by decide +kernel
theorem d_Md_init_245 : decode b_Md_init 245 = .ok (.aload_n 0, 1) := by decide +kernel
theorem d_Md_init_246 : decode b_Md_init 246 = .ok (.bipush 48, 2) := by decide +kernel
theorem d_Md_init_248 : decode b_Md_init 248 = .ok (.newarray .int, 2) := by decide +kernel
theorem d_Md_init_250 : decode b_Md_init 250 = .ok (.putfield 102, 3) := by decide +kernel
theorem d_Md_init_253 : decode b_Md_init 253 = .ok (.aload_n 0, 1) := by decide +kernel
theorem d_Md_init_254 : decode b_Md_init 254 = .ok (.sipush 704, 3) := by decide +kernel
theorem d_Md_init_257 : decode b_Md_init 257 = .ok (.newarray .long, 2) := by decide +kernel
theorem d_Md_init_259 : decode b_Md_init 259 = .ok (.putfield 105, 3) := by decide +kernel
theorem d_Md_init_262 : decode b_Md_init 262 = .ok (.aload_n 0, 1) := by decide +kernel
theorem d_Md_init_263 : decode b_Md_init 263 = .ok (.bipush 48, 2) := by decide +kernel
theorem d_Md_init_265 : decode b_Md_init 265 = .ok (.newarray .int, 2) := by decide +kernel
theorem d_Md_init_267 : decode b_Md_init 267 = .ok (.putfield 108, 3) := by decide +kernel
theorem d_Md_init_270 : decode b_Md_init 270 = .ok (.aload_n 0, 1) := by decide +kernel
theorem d_Md_init_271 : decode b_Md_init 271 = .ok (.sipush 200, 3) := by decide +kernel
theorem d_Md_init_274 : decode b_Md_init 274 = .ok (.newarray .long, 2) := by decide +kernel
theorem d_Md_init_276 : decode b_Md_init 276 = .ok (.putfield 111, 3) := by decide +kernel
theorem d_Md_init_279 : decode b_Md_init 279 = .ok (.aload_n 0, 1) := by decide +kernel
theorem d_Md_init_280 : decode b_Md_init 280 = .ok (.sipush 200, 3) := by decide +kernel
theorem d_Md_init_283 : decode b_Md_init 283 = .ok (.newarray .long, 2) := by decide +kernel
theorem d_Md_init_285 : decode b_Md_init 285 = .ok (.putfield 114, 3) := by decide +kernel
theorem d_Md_init_288 : decode b_Md_init 288 = .ok (.aload_n 0, 1) := by decide +kernel
theorem d_Md_init_289 : decode b_Md_init 289 = .ok (.sipush 24576, 3) := by decide +kernel
theorem d_Md_init_292 : decode b_Md_init 292 = .ok (.newarray .long, 2) := by decide +kernel
theorem d_Md_init_294 : decode b_Md_init 294 = .ok (.putfield 117, 3) := by decide +kernel
theorem d_Md_init_297 : decode b_Md_init 297 = .ok (.aload_n 0, 1) := by decide +kernel
theorem d_Md_init_298 : decode b_Md_init 298 = .ok (.bipush 16, 2) := by decide +kernel
theorem d_Md_init_300 : decode b_Md_init 300 = .ok (.newarray .long, 2) := by decide +kernel
theorem d_Md_init_302 : decode b_Md_init 302 = .ok (.putfield 120, 3) := by decide +kernel
theorem d_Md_init_305 : decode b_Md_init 305 = .ok (.aload_n 0, 1) := by decide +kernel
theorem d_Md_init_306 : decode b_Md_init 306 = .ok (.bipush 16, 2) := by decide +kernel
theorem d_Md_init_308 : decode b_Md_init 308 = .ok (.newarray .long, 2) := by decide +kernel
theorem d_Md_init_310 : decode b_Md_init 310 = .ok (.putfield 123, 3) := by decide +kernel
theorem d_Md_init_313 : decode b_Md_init 313 = .ok (.return_, 1) := by decide +kernel
theorem d_Md_addPower_0 : decode b_Md_addPower 0 = .ok (.iload_n 2, 1) := by decide +kernel
theorem d_Md_addPower_1 : decode b_Md_addPower 1 = .ok (.iconst 2, 1) := by decide +kernel
theorem d_Md_addPower_2 : decode b_Md_addPower 2 = .ok (.irem, 1) := by decide +kernel
theorem d_Md_addPower_3 : decode b_Md_addPower 3 = .ok (.ifCond .ne 7, 3) := by decide +kernel
theorem d_Md_addPower_6 : decode b_Md_addPower 6 = .ok (.lload_n 3, 1) := by decide +kernel
theorem d_Md_addPower_7 : decode b_Md_addPower 7 = .ok (.goto 5, 3) := by decide +kernel
theorem d_Md_addPower_10 : decode b_Md_addPower 10 = .ok (.lload_n 3, 1) := by decide +kernel
theorem d_Md_addPower_11 : decode b_Md_addPower 11 = .ok (.lneg, 1) := by decide +kernel
theorem d_Md_addPower_12 : decode b_Md_addPower 12 = .ok (.lstore 5, 2) := by decide +kernel
theorem d_Md_addPower_14 : decode b_Md_addPower 14 = .ok (.iconst 0, 1) := by decide +kernel
theorem d_Md_addPower_15 : decode b_Md_addPower 15 = .ok (.istore 7, 2) := by decide +kernel
theorem d_Md_addPower_17 : decode b_Md_addPower 17 = .ok (.iload 7, 2) := by decide +kernel
theorem d_Md_addPower_19 : decode b_Md_addPower 19 = .ok (.iload_n 2, 1) := by decide +kernel
theorem d_Md_addPower_20 : decode b_Md_addPower 20 = .ok (.if_icmp .gt 69, 3) := by decide +kernel
theorem d_Md_addPower_23 : decode b_Md_addPower 23 = .ok (.aload_n 0, 1) := by decide +kernel
theorem d_Md_addPower_24 : decode b_Md_addPower 24 = .ok (.getfield 96, 3) := by decide +kernel
theorem d_Md_addPower_27 : decode b_Md_addPower 27 = .ok (.bipush 100, 2) := by decide +kernel
theorem d_Md_addPower_29 : decode b_Md_addPower 29 = .ok (.iload_n 1, 1) := by decide +kernel
theorem d_Md_addPower_30 : decode b_Md_addPower 30 = .ok (.iadd, 1) := by decide +kernel
theorem d_Md_addPower_31 : decode b_Md_addPower 31 = .ok (.iconst 2, 1) := by decide +kernel
theorem d_Md_addPower_32 : decode b_Md_addPower 32 = .ok (.iload_n 2, 1) := by decide +kernel
theorem d_Md_addPower_33 : decode b_Md_addPower 33 = .ok (.imul, 1) := by decide +kernel
theorem d_Md_addPower_34 : decode b_Md_addPower 34 = .ok (.iadd, 1) := by decide +kernel
theorem d_Md_addPower_35 : decode b_Md_addPower 35 = .ok (.iconst 4, 1) := by decide +kernel
theorem d_Md_addPower_36 : decode b_Md_addPower 36 = .ok (.iload 7, 2) := by decide +kernel
theorem d_Md_addPower_38 : decode b_Md_addPower 38 = .ok (.imul, 1) := by decide +kernel
theorem d_Md_addPower_39 : decode b_Md_addPower 39 = .ok (.isub, 1) := by decide +kernel
theorem d_Md_addPower_40 : decode b_Md_addPower 40 = .ok (.dup2, 1) := by decide +kernel
theorem d_Md_addPower_41 : decode b_Md_addPower 41 = .ok (.laload, 1) := by decide +kernel
theorem d_Md_addPower_42 : decode b_Md_addPower 42 = .ok (.lload 5, 2) := by decide +kernel
theorem d_Md_addPower_44 : decode b_Md_addPower 44 = .ok (.ladd, 1) := by decide +kernel
theorem d_Md_addPower_45 : decode b_Md_addPower 45 = .ok (.lastore, 1) := by decide +kernel
theorem d_Md_addPower_46 : decode b_Md_addPower 46 = .ok (.lload 5, 2) := by decide +kernel
theorem d_Md_addPower_48 : decode b_Md_addPower 48 = .ok (.iload 7, 2) := by decide +kernel
theorem d_Md_addPower_50 : decode b_Md_addPower 50 = .ok (.iconst 1, 1) := by decide +kernel
theorem d_Md_addPower_51 : decode b_Md_addPower 51 = .ok (.iadd, 1) := by decide +kernel
theorem d_Md_addPower_52 : decode b_Md_addPower 52 = .ok (.i2l, 1) := by decide +kernel
theorem d_Md_addPower_53 : decode b_Md_addPower 53 = .ok (.ldiv, 1) := by decide +kernel
theorem d_Md_addPower_54 : decode b_Md_addPower 54 = .ok (.iload_n 2, 1) := by decide +kernel
theorem d_Md_addPower_55 : decode b_Md_addPower 55 = .ok (.iload 7, 2) := by decide +kernel
theorem d_Md_addPower_57 : decode b_Md_addPower 57 = .ok (.isub, 1) := by decide +kernel
theorem d_Md_addPower_58 : decode b_Md_addPower 58 = .ok (.i2l, 1) := by decide +kernel
theorem d_Md_addPower_59 : decode b_Md_addPower 59 = .ok (.lmul, 1) := by decide +kernel
theorem d_Md_addPower_60 : decode b_Md_addPower 60 = .ok (.lload 5, 2) := by decide +kernel
theorem d_Md_addPower_62 : decode b_Md_addPower 62 = .ok (.iload 7, 2) := by decide +kernel
theorem d_Md_addPower_64 : decode b_Md_addPower 64 = .ok (.iconst 1, 1) := by decide +kernel
theorem d_Md_addPower_65 : decode b_Md_addPower 65 = .ok (.iadd, 1) := by decide +kernel
