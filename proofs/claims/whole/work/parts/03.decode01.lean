theorem d_En_init_42 : decode b_En_init 42 = .ok (.invokespecial 30, 3) := by decide +kernel
theorem d_En_init_45 : decode b_En_init 45 = .ok (.putfield 31, 3) := by decide +kernel
theorem d_En_init_48 : decode b_En_init 48 = .ok (.aload_n 0, 1) := by decide +kernel
theorem d_En_init_49 : decode b_En_init 49 = .ok (.new 35, 3) := by decide +kernel
theorem d_En_init_52 : decode b_En_init 52 = .ok (.dup, 1) := by decide +kernel
theorem d_En_init_53 : decode b_En_init 53 = .ok (.invokespecial 37, 3) := by decide +kernel
theorem d_En_init_56 : decode b_En_init 56 = .ok (.putfield 38, 3) := by decide +kernel
theorem d_En_init_59 : decode b_En_init 59 = .ok (.aload_n 0, 1) := by decide +kernel
theorem d_En_init_60 : decode b_En_init 60 = .ok (.new 42, 3) := by decide +kernel
theorem d_En_init_63 : decode b_En_init 63 = .ok (.dup, 1) := by decide +kernel
theorem d_En_init_64 : decode b_En_init 64 = .ok (.invokespecial 44, 3) := by decide +kernel
theorem d_En_init_67 : decode b_En_init 67 = .ok (.putfield 45, 3) := by decide +kernel
theorem d_En_init_70 : decode b_En_init 70 = .ok (.aload_n 0, 1) := by decide +kernel
theorem d_En_init_71 : decode b_En_init 71 = .ok (.new 49, 3) := by decide +kernel
theorem d_En_init_74 : decode b_En_init 74 = .ok (.dup, 1) := by decide +kernel
theorem d_En_init_75 : decode b_En_init 75 = .ok (.invokespecial 51, 3) := by decide +kernel
theorem d_En_init_78 : decode b_En_init 78 = .ok (.putfield 52, 3) := by decide +kernel
theorem d_En_init_81 : decode b_En_init 81 = .ok (.aload_n 0, 1) := by decide +kernel
theorem d_En_init_82 : decode b_En_init 82 = .ok (.new 56, 3) := by decide +kernel
theorem d_En_init_85 : decode b_En_init 85 = .ok (.dup, 1) := by decide +kernel
theorem d_En_init_86 : decode b_En_init 86 = .ok (.invokespecial 58, 3) := by decide +kernel
theorem d_En_init_89 : decode b_En_init 89 = .ok (.putfield 59, 3) := by decide +kernel
theorem d_En_init_92 : decode b_En_init 92 = .ok (.aload_n 0, 1) := by decide +kernel
theorem d_En_init_93 : decode b_En_init 93 = .ok (.new 63, 3) := by decide +kernel
theorem d_En_init_96 : decode b_En_init 96 = .ok (.dup, 1) := by decide +kernel
theorem d_En_init_97 : decode b_En_init 97 = .ok (.invokespecial 65, 3) := by decide +kernel
theorem d_En_init_100 : decode b_En_init 100 = .ok (.putfield 66, 3) := by decide +kernel
theorem d_En_init_103 : decode b_En_init 103 = .ok (.aload_n 0, 1) := by decide +kernel
theorem d_En_init_104 : decode b_En_init 104 = .ok (.new 63, 3) := by decide +kernel
theorem d_En_init_107 : decode b_En_init 107 = .ok (.dup, 1) := by decide +kernel
theorem d_En_init_108 : decode b_En_init 108 = .ok (.invokespecial 65, 3) := by decide +kernel
theorem d_En_init_111 : decode b_En_init 111 = .ok (.putfield 70, 3) := by decide +kernel
theorem d_En_init_114 : decode b_En_init 114 = .ok (.aload_n 0, 1) := by decide +kernel
theorem d_En_init_115 : decode b_En_init 115 = .ok (.new 63, 3) := by decide +kernel
theorem d_En_init_118 : decode b_En_init 118 = .ok (.dup, 1) := by decide +kernel
theorem d_En_init_119 : decode b_En_init 119 = .ok (.invokespecial 65, 3) := by decide +kernel
theorem d_En_init_122 : decode b_En_init 122 = .ok (.putfield 73, 3) := by decide +kernel
theorem d_En_init_125 : decode b_En_init 125 = .ok (.aload_n 0, 1) := by decide +kernel
theorem d_En_init_126 : decode b_En_init 126 = .ok (.new 76, 3) := by decide +kernel
theorem d_En_init_129 : decode b_En_init 129 = .ok (.dup, 1) := by decide +kernel
theorem d_En_init_130 : decode b_En_init 130 = .ok (.invokespecial 78, 3) := by decide +kernel
theorem d_En_init_133 : decode b_En_init 133 = .ok (.putfield 79, 3) := by decide +kernel
theorem d_En_init_136 : decode b_En_init 136 = .ok (.aload_n 0, 1) := by decide +kernel
theorem d_En_init_137 : decode b_En_init 137 = .ok (.new 76, 3) := by decide +kernel
theorem d_En_init_140 : decode b_En_init 140 = .ok (.dup, 1) := by decide +kernel
theorem d_En_init_141 : decode b_En_init 141 = .ok (.invokespecial 78, 3) := by decide +kernel
theorem d_En_init_144 : decode b_En_init 144 = .ok (.putfield 83, 3) := by decide +kernel
theorem d_En_init_147 : decode b_En_init 147 = .ok (.aload_n 0, 1) := by decide +kernel
theorem d_En_init_148 : decode b_En_init 148 = .ok (.new 76, 3) := by decide +kernel
theorem d_En_init_151 : decode b_En_init 151 = .ok (.dup, 1) := by decide +kernel
theorem d_En_init_152 : decode b_En_init 152 = .ok (.invokespecial 78, 3) := by decide +kernel
theorem d_En_init_155 : decode b_En_init 155 = .ok (.putfield 86, 3) := by decide +kernel
theorem d_En_init_158 : decode b_En_init 158 = .ok (.return_, 1) := by decide +kernel
theorem d_Md_Di_init_0 : decode b_Md_Di_init 0 = .ok (.aload_n 0, 1) := by decide +kernel
theorem d_Md_Di_init_1 : decode b_Md_Di_init 1 = .ok (.invokespecial 1, 3) := by decide +kernel
theorem d_Md_Di_init_4 : decode b_Md_Di_init 4 = .ok (.aload_n 0, 1) := by decide +kernel
theorem d_Md_Di_init_5 : decode b_Md_Di_init 5 = .ok (.bipush 24, 2) := by decide +kernel
theorem d_Md_Di_init_7 : decode b_Md_Di_init 7 = .ok (.newarray .int, 2) := by decide +kernel
theorem d_Md_Di_init_9 : decode b_Md_Di_init 9 = .ok (.putfield 7, 3) := by decide +kernel
theorem d_Md_Di_init_12 : decode b_Md_Di_init 12 = .ok (.aload_n 0, 1) := by decide +kernel
theorem d_Md_Di_init_13 : decode b_Md_Di_init 13 = .ok (.bipush 96, 2) := by decide +kernel
theorem d_Md_Di_init_15 : decode b_Md_Di_init 15 = .ok (.newarray .int, 2) := by decide +kernel
theorem d_Md_Di_init_17 : decode b_Md_Di_init 17 = .ok (.putfield 13, 3) := by decide +kernel
theorem d_Md_Di_init_20 : decode b_Md_Di_init 20 = .ok (.return_, 1) := by decide +kernel
theorem d_Md_Wo_init_0 : decode b_Md_Wo_init 0 = .ok (.aload_n 0, 1) := by decide +kernel
theorem d_Md_Wo_init_1 : decode b_Md_Wo_init 1 = .ok (.invokespecial 1, 3) := by decide +kernel
theorem d_Md_Wo_init_4 : decode b_Md_Wo_init 4 = .ok (.aload_n 0, 1) := by decide +kernel
theorem d_Md_Wo_init_5 : decode b_Md_Wo_init 5 = .ok (.iconst 1, 1) := by decide +kernel
theorem d_Md_Wo_init_6 : decode b_Md_Wo_init 6 = .ok (.putfield 7, 3) := by decide +kernel
theorem d_Md_Wo_init_9 : decode b_Md_Wo_init 9 = .ok (.aload_n 0, 1) := by decide +kernel
theorem d_Md_Wo_init_10 : decode b_Md_Wo_init 10 = .ok (.bipush 20, 2) := by decide +kernel
theorem d_Md_Wo_init_12 : decode b_Md_Wo_init 12 = .ok (.newarray .int, 2) := by decide +kernel
theorem d_Md_Wo_init_14 : decode b_Md_Wo_init 14 = .ok (.putfield 13, 3) := by decide +kernel
theorem d_Md_Wo_init_17 : decode b_Md_Wo_init 17 = .ok (.aload_n 0, 1) := by decide +kernel
theorem d_Md_Wo_init_18 : decode b_Md_Wo_init 18 = .ok (.sipush 216, 3) := by decide +kernel
theorem d_Md_Wo_init_21 : decode b_Md_Wo_init 21 = .ok (.newarray .int, 2) := by decide +kernel
theorem d_Md_Wo_init_23 : decode b_Md_Wo_init 23 = .ok (.putfield 17, 3) := by decide +kernel
theorem d_Md_Wo_init_26 : decode b_Md_Wo_init 26 = .ok (.return_, 1) := by decide +kernel
theorem d_Md_init_0 : decode b_Md_init 0 = .ok (.aload_n 0, 1) := by decide +kernel
theorem d_Md_init_1 : decode b_Md_init 1 = .ok (.invokespecial 1, 3) := by decide +kernel
theorem d_Md_init_4 : decode b_Md_init 4 = .ok (.aload_n 0, 1) := by decide +kernel
theorem d_Md_init_5 : decode b_Md_init 5 = .ok (.sipush 4000, 3) := by decide +kernel
theorem d_Md_init_8 : decode b_Md_init 8 = .ok (.newarray .byte, 2) := by decide +kernel
theorem d_Md_init_10 : decode b_Md_init 10 = .ok (.putfield 9, 3) := by decide +kernel
theorem d_Md_init_13 : decode b_Md_init 13 = .ok (.aload_n 0, 1) := by decide +kernel
theorem d_Md_init_14 : decode b_Md_init 14 = .ok (.sipush 4000, 3) := by decide +kernel
theorem d_Md_init_17 : decode b_Md_init 17 = .ok (.newarray .byte, 2) := by decide +kernel
theorem d_Md_init_19 : decode b_Md_init 19 = .ok (.putfield 13, 3) := by decide +kernel
theorem d_Md_init_22 : decode b_Md_init 22 = .ok (.aload_n 0, 1) := by decide +kernel
theorem d_Md_init_23 : decode b_Md_init 23 = .ok (.sipush 4000, 3) := by decide +kernel
theorem d_Md_init_26 : decode b_Md_init 26 = .ok (.newarray .byte, 2) := by decide +kernel
theorem d_Md_init_28 : decode b_Md_init 28 = .ok (.putfield 16, 3) := by decide +kernel
theorem d_Md_init_31 : decode b_Md_init 31 = .ok (.aload_n 0, 1) := by decide +kernel
theorem d_Md_init_32 : decode b_Md_init 32 = .ok (.iconst (-1), 1) := by decide +kernel
theorem d_Md_init_33 : decode b_Md_init 33 = .ok (.putfield 19, 3) := by decide +kernel
theorem d_Md_init_36 : decode b_Md_init 36 = .ok (.aload_n 0, 1) := by decide +kernel
theorem d_Md_init_37 : decode b_Md_init 37 = .ok (.bipush 65, 2) := by decide +kernel
theorem d_Md_init_39 : decode b_Md_init 39 = .ok (.newarray .int, 2) := by decide +kernel
theorem d_Md_init_41 : decode b_Md_init 41 = .ok (.putfield 23, 3) := by decide +kernel
theorem d_Md_init_44 : decode b_Md_init 44 = .ok (.aload_n 0, 1) := by decide +kernel
theorem d_Md_init_45 : decode b_Md_init 45 = .ok (.bipush 66, 2) := by decide +kernel
theorem d_Md_init_47 : decode b_Md_init 47 = .ok (.newarray .int, 2) := by decide +kernel
theorem d_Md_init_49 : decode b_Md_init 49 = .ok (.putfield 27, 3) := by decide +kernel
theorem d_Md_init_52 : decode b_Md_init 52 = .ok (.aload_n 0, 1) := by decide +kernel
theorem d_Md_init_53 : decode b_Md_init 53 = .ok (.sipush 9000, 3) := by decide +kernel
theorem d_Md_init_56 : decode b_Md_init 56 = .ok (.newarray .long, 2) := by decide +kernel
theorem d_Md_init_58 : decode b_Md_init 58 = .ok (.putfield 30, 3) := by decide +kernel
theorem d_Md_init_61 : decode b_Md_init 61 = .ok (.aload_n 0, 1) := by decide +kernel
theorem d_Md_init_62 : decode b_Md_init 62 = .ok (.new 34, 3) := by decide +kernel
theorem d_Md_init_65 : decode b_Md_init 65 = .ok (.dup, 1) := by decide +kernel
theorem d_Md_init_66 : decode b_Md_init 66 = .ok (.invokespecial 36, 3) := by decide +kernel
theorem d_Md_init_69 : decode b_Md_init 69 = .ok (.putfield 37, 3) := by decide +kernel
theorem d_Md_init_72 : decode b_Md_init 72 = .ok (.aload_n 0, 1) := by decide +kernel
theorem d_Md_init_73 : decode b_Md_init 73 = .ok (.new 34, 3) := by decide +kernel
theorem d_Md_init_76 : decode b_Md_init 76 = .ok (.dup, 1) := by decide +kernel
theorem d_Md_init_77 : decode b_Md_init 77 = .ok (.invokespecial 36, 3) := by decide +kernel
theorem d_Md_init_80 : decode b_Md_init 80 = .ok (.putfield 41, 3) := by decide +kernel
theorem d_Md_init_83 : decode b_Md_init 83 = .ok (.aload_n 0, 1) := by decide +kernel
theorem d_Md_init_84 : decode b_Md_init 84 = .ok (.new 34, 3) := by decide +kernel
theorem d_Md_init_87 : decode b_Md_init 87 = .ok (.dup, 1) := by decide +kernel
theorem d_Md_init_88 : decode b_Md_init 88 = .ok (.invokespecial 36, 3) := by decide +kernel
theorem d_Md_init_91 : decode b_Md_init 91 = .ok (.putfield 44, 3) := by decide +kernel
theorem d_Md_init_94 : decode b_Md_init 94 = .ok (.aload_n 0, 1) := by decide +kernel
theorem d_Md_init_95 : decode b_Md_init 95 = .ok (.new 47, 3) := by decide +kernel
theorem d_Md_init_98 : decode b_Md_init 98 = .ok (.dup, 1) := by decide +kernel
theorem d_Md_init_99 : decode b_Md_init 99 = .ok (.invokespecial 49, 3) := by decide +kernel
theorem d_Md_init_102 : decode b_Md_init 102 = .ok (.putfield 50, 3) := by decide +kernel
theorem d_Md_init_105 : decode b_Md_init 105 = .ok (.aload_n 0, 1) := by decide +kernel
theorem d_Md_init_106 : decode b_Md_init 106 = .ok (.new 47, 3) := by decide +kernel
theorem d_Md_init_109 : decode b_Md_init 109 = .ok (.dup, 1) := by decide +kernel
theorem d_Md_init_110 : decode b_Md_init 110 = .ok (.invokespecial 49, 3) := by decide +kernel
theorem d_Md_init_113 : decode b_Md_init 113 = .ok (.putfield 54, 3) := by decide +kernel
theorem d_Md_init_116 : decode b_Md_init 116 = .ok (.aload_n 0, 1) := by decide +kernel
theorem d_Md_init_117 : decode b_Md_init 117 = .ok (.new 47, 3) := by decide +kernel
theorem d_Md_init_120 : decode b_Md_init 120 = .ok (.dup, 1) := by decide +kernel
theorem d_Md_init_121 : decode b_Md_init 121 = .ok (.invokespecial 49, 3) := by decide +kernel
theorem d_Md_init_124 : decode b_Md_init 124 = .ok (.putfield 57, 3) := by decide +kernel
theorem d_Md_init_127 : decode b_Md_init 127 = .ok (.aload_n 0, 1) := by decide +kernel
theorem d_Md_init_128 : decode b_Md_init 128 = .ok (.new 47, 3) := by decide +kernel
theorem d_Md_init_131 : decode b_Md_init 131 = .ok (.dup, 1) := by decide +kernel
theorem d_Md_init_132 : decode b_Md_init 132 = .ok (.invokespecial 49, 3) := by decide +kernel
theorem d_Md_init_135 : decode b_Md_init 135 = .ok (.putfield 60, 3) := by decide +kernel
theorem d_Md_init_138 : decode b_Md_init 138 = .ok (.aload_n 0, 1) := by decide +kernel
theorem d_Md_init_139 : decode b_Md_init 139 = .ok (.sipush 8000, 3) := by decide +kernel
theorem d_Md_init_142 : decode b_Md_init 142 = .ok (.newarray .byte, 2) := by decide +kernel
theorem d_Md_init_144 : decode b_Md_init 144 = .ok (.putfield 63, 3) := by decide +kernel
theorem d_Md_init_147 : decode b_Md_init 147 = .ok (.aload_n 0, 1) := by decide +kernel
theorem d_Md_init_148 : decode b_Md_init 148 = .ok (.bipush 48, 2) := by decide +kernel
theorem d_Md_init_150 : decode b_Md_init 150 = .ok (.newarray .int, 2) := by decide +kernel
theorem d_Md_init_152 : decode b_Md_init 152 = .ok (.putfield 66, 3) := by decide +kernel
theorem d_Md_init_155 : decode b_Md_init 155 = .ok (.aload_n 0, 1) := by decide +kernel
theorem d_Md_init_156 : decode b_Md_init 156 = .ok (.bipush 48, 2) := by decide +kernel
theorem d_Md_init_158 : decode b_Md_init 158 = .ok (.newarray .int, 2) := by decide +kernel
theorem d_Md_init_160 : decode b_Md_init 160 = .ok (.putfield 69, 3) := by decide +kernel
theorem d_Md_init_163 : decode b_Md_init 163 = .ok (.aload_n 0, 1) := by decide +kernel
theorem d_Md_init_164 : decode b_Md_init 164 = .ok (.bipush 48, 2) := by decide +kernel
theorem d_Md_init_166 : decode b_Md_init 166 = .ok (.newarray .int, 2) := by decide +kernel
theorem d_Md_init_168 : decode b_Md_init 168 = .ok (.putfield 72, 3) := by decide +kernel
theorem d_Md_init_171 : decode b_Md_init 171 = .ok (.aload_n 0, 1) := by decide +kernel
theorem d_Md_init_172 : decode b_Md_init 172 = .ok (.bipush 48, 2) := by decide +kernel
theorem d_Md_init_174 : decode b_Md_init 174 = .ok (.newarray .int, 2) := by decide +kernel
theorem d_Md_init_176 : decode b_Md_init 176 = .ok (.putfield 75, 3) := by decide +kernel
theorem d_Md_init_179 : decode b_Md_init 179 = .ok (.aload_n 0, 1) := by decide +kernel
theorem d_Md_init_180 : decode b_Md_init 180 = .ok (.bipush 48, 2) := by decide +kernel
theorem d_Md_init_182 : decode b_Md_init 182 = .ok (.newarray .int, 2) := by decide +kernel
theorem d_Md_init_184 : decode b_Md_init 184 = .ok (.putfield 78, 3) := by decide +kernel
theorem d_Md_init_187 : decode b_Md_init 187 = .ok (.aload_n 0, 1) := by decide +kernel
theorem d_Md_init_188 : decode b_Md_init 188 = .ok (.bipush 96, 2) := by decide +kernel
theorem d_Md_init_190 : decode b_Md_init 190 = .ok (.newarray .int, 2) := by decide +kernel
theorem d_Md_init_192 : decode b_Md_init 192 = .ok (.putfield 81, 3) := by decide +kernel
theorem d_Md_init_195 : decode b_Md_init 195 = .ok (.aload_n 0, 1) := by decide +kernel
theorem d_Md_init_196 : decode b_Md_init 196 = .ok (.bipush 96, 2) := by decide +kernel
theorem d_Md_init_198 : decode b_Md_init 198 = .ok (.newarray .int, 2) := by decide +kernel
theorem d_Md_init_200 : decode b_Md_init 200 = .ok (.putfield 84, 3) := by decide +kernel
theorem d_Md_init_203 : decode b_Md_init 203 = .ok (.aload_n 0, 1) := by decide +kernel
theorem d_Md_init_204 : decode b_Md_init 204 = .ok (.bipush 96, 2) := by decide +kernel
theorem d_Md_init_206 : decode b_Md_init 206 = .ok (.newarray .int, 2) := by decide +kernel
theorem d_Md_init_208 : decode b_Md_init 208 = .ok (.putfield 87, 3) := by decide +kernel
theorem d_Md_init_211 : decode b_Md_init 211 = .ok (.aload_n 0, 1) := by decide +kernel
theorem d_Md_init_212 : decode b_Md_init 212 = .ok (.bipush 24, 2) := by decide +kernel
theorem d_Md_init_214 : decode b_Md_init 214 = .ok (.newarray .int, 2) := by decide +kernel
theorem d_Md_init_216 : decode b_Md_init 216 = .ok (.putfield 90, 3) := by decide +kernel
theorem d_Md_init_219 : decode b_Md_init 219 = .ok (.aload_n 0, 1) := by decide +kernel
theorem d_Md_init_220 : decode b_Md_init 220 = .ok (.bipush 9, 2) := by decide +kernel
theorem d_Md_init_222 : decode b_Md_init 222 = .ok (.newarray .int, 2) := by decide +kernel
theorem d_Md_init_224 : decode b_Md_init 224 = .ok (.putfield 93, 3) := by decide +kernel
theorem d_Md_init_227 : decode b_Md_init 227 = .ok (.aload_n 0, 1) := by decide +kernel
theorem d_Md_init_228 : decode b_Md_init 228 = .ok (.sipush 201, 3) := by decide +kernel
theorem d_Md_init_231 : decode b_Md_init 231 = .ok (.newarray .long, 2) := by decide +kernel
theorem d_Md_init_233 : decode b_Md_init 233 = .ok (.putfield 96, 3) := by decide +kernel
theorem d_Md_init_236 : decode b_Md_init 236 = .ok (.aload_n 0, 1) := by decide +kernel
theorem d_Md_init_237 : decode b_Md_init 237 = .ok (.sipush 201, 3) := by decide +kernel
theorem d_Md_init_240 : decode b_Md_init 240 = .ok (.newarray .long, 2) := by decide +kernel
theorem d_Md_init_242 : decode b_Md_init 242 = .ok (.putfield 99, 3) := by decide +kernel
theorem d_Md_init_245 : decode b_Md_init 245 = .ok (.aload_n 0, 1) := by decide +kernel
theorem d_Md_init_246 : decode b_Md_init 246 = .ok (.bipush 48, 2) := by decide +kernel
theorem d_Md_init_248 : decode b_Md_init 248 = .ok (.newarray .int, 2) := by decide +kernel
theorem d_Md_init_250 : decode b_Md_init 250 = .ok (.putfield 102, 3) := by decide +kernel
theorem d_Md_init_253 : decode b_Md_init 253 = .ok (.aload_n 0, 1) := by decide +kernel
theorem d_Md_init_254 : decode b_Md_init 254 = .ok (.sipush 704, 3) := by decide +kernel
