theorem d_Md_findEdges_88 : decode b_Md_findEdges 88 = .ok (.iinc 2 (-1), 3) := by decide +kernel
theorem d_Md_findEdges_91 : decode b_Md_findEdges 91 = .ok (.goto (-55), 3) := by decide +kernel
theorem d_Md_findEdges_94 : decode b_Md_findEdges 94 = .ok (.aload_n 0, 1) := by decide +kernel
theorem d_Md_findEdges_95 : decode b_Md_findEdges 95 = .ok (.getfield 66, 3) := by decide +kernel
theorem d_Md_findEdges_98 : decode b_Md_findEdges 98 = .ok (.iload_n 2, 1) := by decide +kernel
theorem d_Md_findEdges_99 : decode b_Md_findEdges 99 = .ok (.aload_n 0, 1) := by decide +kernel
theorem d_Md_findEdges_100 : decode b_Md_findEdges 100 = .ok (.getfield 37, 3) := by decide +kernel
theorem d_Md_findEdges_103 : decode b_Md_findEdges 103 = .ok (.getfield 318, 3) := by decide +kernel
theorem d_Md_findEdges_106 : decode b_Md_findEdges 106 = .ok (.iload_n 1, 1) := by decide +kernel
theorem d_Md_findEdges_107 : decode b_Md_findEdges 107 = .ok (.iaload, 1) := by decide +kernel
theorem d_Md_findEdges_108 : decode b_Md_findEdges 108 = .ok (.iastore, 1) := by decide +kernel
theorem d_Md_findEdges_109 : decode b_Md_findEdges 109 = .ok (.aload_n 0, 1) := by decide +kernel
theorem d_Md_findEdges_110 : decode b_Md_findEdges 110 = .ok (.getfield 69, 3) := by decide +kernel
theorem d_Md_findEdges_113 : decode b_Md_findEdges 113 = .ok (.iload_n 2, 1) := by decide +kernel
theorem d_Md_findEdges_114 : decode b_Md_findEdges 114 = .ok (.iload_n 1, 1) := by decide +kernel
theorem d_Md_findEdges_115 : decode b_Md_findEdges 115 = .ok (.iastore, 1) := by decide +kernel
theorem d_Md_findEdges_116 : decode b_Md_findEdges 116 = .ok (.aload_n 0, 1) := by decide +kernel
theorem d_Md_findEdges_117 : decode b_Md_findEdges 117 = .ok (.dup, 1) := by decide +kernel
theorem d_Md_findEdges_118 : decode b_Md_findEdges 118 = .ok (.getfield 309, 3) := by decide +kernel
theorem d_Md_findEdges_121 : decode b_Md_findEdges 121 = .ok (.iconst 1, 1) := by decide +kernel
theorem d_Md_findEdges_122 : decode b_Md_findEdges 122 = .ok (.iadd, 1) := by decide +kernel
theorem d_Md_findEdges_123 : decode b_Md_findEdges 123 = .ok (.putfield 309, 3) := by decide +kernel
theorem d_Md_findEdges_126 : decode b_Md_findEdges 126 = .ok (.iinc 1 1, 3) := by decide +kernel
theorem d_Md_findEdges_129 : decode b_Md_findEdges 129 = .ok (.goto (-122), 3) := by decide +kernel
theorem d_Md_findEdges_132 : decode b_Md_findEdges 132 = .ok (.iconst 0, 1) := by decide +kernel
theorem d_Md_findEdges_133 : decode b_Md_findEdges 133 = .ok (.istore_n 1, 1) := by decide +kernel
theorem d_Md_findEdges_134 : decode b_Md_findEdges 134 = .ok (.iload_n 1, 1) := by decide +kernel
theorem d_Md_findEdges_135 : decode b_Md_findEdges 135 = .ok (.iconst 4, 1) := by decide +kernel
theorem d_Md_findEdges_136 : decode b_Md_findEdges 136 = .ok (.aload_n 0, 1) := by decide +kernel
theorem d_Md_findEdges_137 : decode b_Md_findEdges 137 = .ok (.getfield 37, 3) := by decide +kernel
theorem d_Md_findEdges_140 : decode b_Md_findEdges 140 = .ok (.getfield 312, 3) := by decide +kernel
theorem d_Md_findEdges_143 : decode b_Md_findEdges 143 = .ok (.imul, 1) := by decide +kernel
theorem d_Md_findEdges_144 : decode b_Md_findEdges 144 = .ok (.if_icmp .ge 36, 3) := by decide +kernel
theorem d_Md_findEdges_147 : decode b_Md_findEdges 147 = .ok (.aload_n 0, 1) := by decide +kernel
theorem d_Md_findEdges_148 : decode b_Md_findEdges 148 = .ok (.iload_n 1, 1) := by decide +kernel
theorem d_Md_findEdges_149 : decode b_Md_findEdges 149 = .ok (.invokevirtual 315, 3) := by decide +kernel
theorem d_Md_findEdges_152 : decode b_Md_findEdges 152 = .ok (.ifCond .eq 22, 3) := by decide +kernel
theorem d_Md_findEdges_155 : decode b_Md_findEdges 155 = .ok (.aload_n 0, 1) := by decide +kernel
theorem d_Md_findEdges_156 : decode b_Md_findEdges 156 = .ok (.getfield 72, 3) := by decide +kernel
theorem d_Md_findEdges_159 : decode b_Md_findEdges 159 = .ok (.aload_n 0, 1) := by decide +kernel
theorem d_Md_findEdges_160 : decode b_Md_findEdges 160 = .ok (.aload_n 0, 1) := by decide +kernel
theorem d_Md_findEdges_161 : decode b_Md_findEdges 161 = .ok (.getfield 37, 3) := by decide +kernel
theorem d_Md_findEdges_164 : decode b_Md_findEdges 164 = .ok (.getfield 318, 3) := by decide +kernel
theorem d_Md_findEdges_167 : decode b_Md_findEdges 167 = .ok (.iload_n 1, 1) := by decide +kernel
theorem d_Md_findEdges_168 : decode b_Md_findEdges 168 = .ok (.iaload, 1) := by decide +kernel
theorem d_Md_findEdges_169 : decode b_Md_findEdges 169 = .ok (.invokevirtual 321, 3) := by decide +kernel
theorem d_Md_findEdges_172 : decode b_Md_findEdges 172 = .ok (.iload_n 1, 1) := by decide +kernel
theorem d_Md_findEdges_173 : decode b_Md_findEdges 173 = .ok (.iastore, 1) := by decide +kernel
theorem d_Md_findEdges_174 : decode b_Md_findEdges 174 = .ok (.iinc 1 1, 3) := by decide +kernel
theorem d_Md_findEdges_177 : decode b_Md_findEdges 177 = .ok (.goto (-43), 3) := by decide +kernel
theorem d_Md_findEdges_180 : decode b_Md_findEdges 180 = .ok (.iconst 0, 1) := by decide +kernel
theorem d_Md_findEdges_181 : decode b_Md_findEdges 181 = .ok (.istore_n 1, 1) := by decide +kernel
theorem d_Md_findEdges_182 : decode b_Md_findEdges 182 = .ok (.iload_n 1, 1) := by decide +kernel
theorem d_Md_findEdges_183 : decode b_Md_findEdges 183 = .ok (.aload_n 0, 1) := by decide +kernel
theorem d_Md_findEdges_184 : decode b_Md_findEdges 184 = .ok (.getfield 309, 3) := by decide +kernel
theorem d_Md_findEdges_187 : decode b_Md_findEdges 187 = .ok (.if_icmp .ge 33, 3) := by decide +kernel
theorem d_Md_findEdges_190 : decode b_Md_findEdges 190 = .ok (.aload_n 0, 1) := by decide +kernel
theorem d_Md_findEdges_191 : decode b_Md_findEdges 191 = .ok (.getfield 81, 3) := by decide +kernel
theorem d_Md_findEdges_194 : decode b_Md_findEdges 194 = .ok (.aload_n 0, 1) := by decide +kernel
theorem d_Md_findEdges_195 : decode b_Md_findEdges 195 = .ok (.getfield 69, 3) := by decide +kernel
theorem d_Md_findEdges_198 : decode b_Md_findEdges 198 = .ok (.iload_n 1, 1) := by decide +kernel
theorem d_Md_findEdges_199 : decode b_Md_findEdges 199 = .ok (.iaload, 1) := by decide +kernel
theorem d_Md_findEdges_200 : decode b_Md_findEdges 200 = .ok (.iload_n 1, 1) := by decide +kernel
theorem d_Md_findEdges_201 : decode b_Md_findEdges 201 = .ok (.iastore, 1) := by decide +kernel
theorem d_Md_findEdges_202 : decode b_Md_findEdges 202 = .ok (.aload_n 0, 1) := by decide +kernel
theorem d_Md_findEdges_203 : decode b_Md_findEdges 203 = .ok (.getfield 81, 3) := by decide +kernel
theorem d_Md_findEdges_206 : decode b_Md_findEdges 206 = .ok (.aload_n 0, 1) := by decide +kernel
theorem d_Md_findEdges_207 : decode b_Md_findEdges 207 = .ok (.getfield 72, 3) := by decide +kernel
theorem d_Md_findEdges_210 : decode b_Md_findEdges 210 = .ok (.iload_n 1, 1) := by decide +kernel
theorem d_Md_findEdges_211 : decode b_Md_findEdges 211 = .ok (.iaload, 1) := by decide +kernel
theorem d_Md_findEdges_212 : decode b_Md_findEdges 212 = .ok (.iload_n 1, 1) := by decide +kernel
theorem d_Md_findEdges_213 : decode b_Md_findEdges 213 = .ok (.iastore, 1) := by decide +kernel
theorem d_Md_findEdges_214 : decode b_Md_findEdges 214 = .ok (.iinc 1 1, 3) := by decide +kernel
theorem d_Md_findEdges_217 : decode b_Md_findEdges 217 = .ok (.goto (-35), 3) := by decide +kernel
theorem d_Md_findEdges_220 : decode b_Md_findEdges 220 = .ok (.iconst 0, 1) := by decide +kernel
theorem d_Md_findEdges_221 : decode b_Md_findEdges 221 = .ok (.istore_n 1, 1) := by decide +kernel
theorem d_Md_findEdges_222 : decode b_Md_findEdges 222 = .ok (.iload_n 1, 1) := by decide +kernel
theorem d_Md_findEdges_223 : decode b_Md_findEdges 223 = .ok (.aload_n 0, 1) := by decide +kernel
theorem d_Md_findEdges_224 : decode b_Md_findEdges 224 = .ok (.getfield 309, 3) := by decide +kernel
theorem d_Md_findEdges_227 : decode b_Md_findEdges 227 = .ok (.if_icmp .ge 28, 3) := by decide +kernel
theorem d_Md_findEdges_230 : decode b_Md_findEdges 230 = .ok (.aload_n 0, 1) := by decide +kernel
theorem d_Md_findEdges_231 : decode b_Md_findEdges 231 = .ok (.getfield 75, 3) := by decide +kernel
theorem d_Md_findEdges_234 : decode b_Md_findEdges 234 = .ok (.iload_n 1, 1) := by decide +kernel
theorem d_Md_findEdges_235 : decode b_Md_findEdges 235 = .ok (.aload_n 0, 1) := by decide +kernel
theorem d_Md_findEdges_236 : decode b_Md_findEdges 236 = .ok (.getfield 81, 3) := by decide +kernel
theorem d_Md_findEdges_239 : decode b_Md_findEdges 239 = .ok (.aload_n 0, 1) := by decide +kernel
theorem d_Md_findEdges_240 : decode b_Md_findEdges 240 = .ok (.getfield 72, 3) := by decide +kernel
theorem d_Md_findEdges_243 : decode b_Md_findEdges 243 = .ok (.iload_n 1, 1) := by decide +kernel
theorem d_Md_findEdges_244 : decode b_Md_findEdges 244 = .ok (.iaload, 1) := by decide +kernel
theorem d_Md_findEdges_245 : decode b_Md_findEdges 245 = .ok (.iconst 2, 1) := by decide +kernel
theorem d_Md_findEdges_246 : decode b_Md_findEdges 246 = .ok (.ixor, 1) := by decide +kernel
theorem d_Md_findEdges_247 : decode b_Md_findEdges 247 = .ok (.iaload, 1) := by decide +kernel
theorem d_Md_findEdges_248 : decode b_Md_findEdges 248 = .ok (.iastore, 1) := by decide +kernel
theorem d_Md_findEdges_249 : decode b_Md_findEdges 249 = .ok (.iinc 1 1, 3) := by decide +kernel
theorem d_Md_findEdges_252 : decode b_Md_findEdges 252 = .ok (.goto (-30), 3) := by decide +kernel
theorem d_Md_findEdges_255 : decode b_Md_findEdges 255 = .ok (.return_, 1) := by decide +kernel
theorem d_Md_findMatrix_0 : decode b_Md_findMatrix 0 = .ok (.iconst 0, 1) := by decide +kernel
theorem d_Md_findMatrix_1 : decode b_Md_findMatrix 1 = .ok (.istore_n 1, 1) := by decide +kernel
theorem d_Md_findMatrix_2 : decode b_Md_findMatrix 2 = .ok (.iload_n 1, 1) := by decide +kernel
theorem d_Md_findMatrix_3 : decode b_Md_findMatrix 3 = .ok (.sipush 200, 3) := by decide +kernel
theorem d_Md_findMatrix_6 : decode b_Md_findMatrix 6 = .ok (.if_icmp .ge 23, 3) := by decide +kernel
theorem d_Md_findMatrix_9 : decode b_Md_findMatrix 9 = .ok (.aload_n 0, 1) := by decide +kernel
theorem d_Md_findMatrix_10 : decode b_Md_findMatrix 10 = .ok (.getfield 111, 3) := by decide +kernel
theorem d_Md_findMatrix_13 : decode b_Md_findMatrix 13 = .ok (.iload_n 1, 1) := by decide +kernel
theorem d_Md_findMatrix_14 : decode b_Md_findMatrix 14 = .ok (.lconst 0, 1) := by decide +kernel
theorem d_Md_findMatrix_15 : decode b_Md_findMatrix 15 = .ok (.lastore, 1) := by decide +kernel
theorem d_Md_findMatrix_16 : decode b_Md_findMatrix 16 = .ok (.aload_n 0, 1) := by decide +kernel
theorem d_Md_findMatrix_17 : decode b_Md_findMatrix 17 = .ok (.getfield 114, 3) := by decide +kernel
theorem d_Md_findMatrix_20 : decode b_Md_findMatrix 20 = .ok (.iload_n 1, 1) := by decide +kernel
theorem d_Md_findMatrix_21 : decode b_Md_findMatrix 21 = .ok (.lconst 0, 1) := by decide +kernel
theorem d_Md_findMatrix_22 : decode b_Md_findMatrix 22 = .ok (.lastore, 1) := by decide +kernel
theorem d_Md_findMatrix_23 : decode b_Md_findMatrix 23 = .ok (.iinc 1 1, 3) := by decide +kernel
theorem d_Md_findMatrix_26 : decode b_Md_findMatrix 26 = .ok (.goto (-24), 3) := by decide +kernel
theorem d_Md_findMatrix_29 : decode b_Md_findMatrix 29 = .ok (.iconst 0, 1) := by decide +kernel
theorem d_Md_findMatrix_30 : decode b_Md_findMatrix 30 = .ok (.istore_n 1, 1) := by decide +kernel
theorem d_Md_findMatrix_31 : decode b_Md_findMatrix 31 = .ok (.iload_n 1, 1) := by decide +kernel
theorem d_Md_findMatrix_32 : decode b_Md_findMatrix 32 = .ok (.aload_n 0, 1) := by decide +kernel
theorem d_Md_findMatrix_33 : decode b_Md_findMatrix 33 = .ok (.getfield 37, 3) := by decide +kernel
theorem d_Md_findMatrix_36 : decode b_Md_findMatrix 36 = .ok (.getfield 312, 3) := by decide +kernel
theorem d_Md_findMatrix_39 : decode b_Md_findMatrix 39 = .ok (.if_icmp .ge 152, 3) := by decide +kernel
theorem d_Md_findMatrix_42 : decode b_Md_findMatrix 42 = .ok (.aload_n 0, 1) := by decide +kernel
theorem d_Md_findMatrix_43 : decode b_Md_findMatrix 43 = .ok (.getfield 108, 3) := by decide +kernel
theorem d_Md_findMatrix_46 : decode b_Md_findMatrix 46 = .ok (.aload_n 0, 1) := by decide +kernel
theorem d_Md_findMatrix_47 : decode b_Md_findMatrix 47 = .ok (.getfield 81, 3) := by decide +kernel
theorem d_Md_findMatrix_50 : decode b_Md_findMatrix 50 = .ok (.iconst 4, 1) := by decide +kernel
theorem d_Md_findMatrix_51 : decode b_Md_findMatrix 51 = .ok (.iload_n 1, 1) := by decide +kernel
theorem d_Md_findMatrix_52 : decode b_Md_findMatrix 52 = .ok (.imul, 1) := by decide +kernel
theorem d_Md_findMatrix_53 : decode b_Md_findMatrix 53 = .ok (.iaload, 1) := by decide +kernel
theorem d_Md_findMatrix_54 : decode b_Md_findMatrix 54 = .ok (.iaload, 1) := by decide +kernel
theorem d_Md_findMatrix_55 : decode b_Md_findMatrix 55 = .ok (.istore_n 2, 1) := by decide +kernel
theorem d_Md_findMatrix_56 : decode b_Md_findMatrix 56 = .ok (.aload_n 0, 1) := by decide +kernel
theorem d_Md_findMatrix_57 : decode b_Md_findMatrix 57 = .ok (.getfield 108, 3) := by decide +kernel
theorem d_Md_findMatrix_60 : decode b_Md_findMatrix 60 = .ok (.aload_n 0, 1) := by decide +kernel
theorem d_Md_findMatrix_61 : decode b_Md_findMatrix 61 = .ok (.getfield 81, 3) := by decide +kernel
theorem d_Md_findMatrix_64 : decode b_Md_findMatrix 64 = .ok (.iconst 4, 1) := by decide +kernel
theorem d_Md_findMatrix_65 : decode b_Md_findMatrix 65 = .ok (.iload_n 1, 1) := by decide +kernel
theorem d_Md_findMatrix_66 : decode b_Md_findMatrix 66 = .ok (.imul, 1) := by decide +kernel
theorem d_Md_findMatrix_67 : decode b_Md_findMatrix 67 = .ok (.iconst 2, 1) := by decide +kernel
theorem d_Md_findMatrix_68 : decode b_Md_findMatrix 68 = .ok (.iadd, 1) := by decide +kernel
theorem d_Md_findMatrix_69 : decode b_Md_findMatrix 69 = .ok (.iaload, 1) := by decide +kernel
theorem d_Md_findMatrix_70 : decode b_Md_findMatrix 70 = .ok (.iaload, 1) := by decide +kernel
theorem d_Md_findMatrix_71 : decode b_Md_findMatrix 71 = .ok (.istore_n 3, 1) := by decide +kernel
theorem d_Md_findMatrix_72 : decode b_Md_findMatrix 72 = .ok (.aload_n 0, 1) := by decide +kernel
theorem d_Md_findMatrix_73 : decode b_Md_findMatrix 73 = .ok (.getfield 108, 3) := by decide +kernel
theorem d_Md_findMatrix_76 : decode b_Md_findMatrix 76 = .ok (.aload_n 0, 1) := by decide +kernel
theorem d_Md_findMatrix_77 : decode b_Md_findMatrix 77 = .ok (.getfield 81, 3) := by decide +kernel
theorem d_Md_findMatrix_80 : decode b_Md_findMatrix 80 = .ok (.iconst 4, 1) := by decide +kernel
theorem d_Md_findMatrix_81 : decode b_Md_findMatrix 81 = .ok (.iload_n 1, 1) := by decide +kernel
theorem d_Md_findMatrix_82 : decode b_Md_findMatrix 82 = .ok (.imul, 1) := by decide +kernel
theorem d_Md_findMatrix_83 : decode b_Md_findMatrix 83 = .ok (.iconst 1, 1) := by decide +kernel
theorem d_Md_findMatrix_84 : decode b_Md_findMatrix 84 = .ok (.iadd, 1) := by decide +kernel
theorem d_Md_findMatrix_85 : decode b_Md_findMatrix 85 = .ok (.iaload, 1) := by decide +kernel
theorem d_Md_findMatrix_86 : decode b_Md_findMatrix 86 = .ok (.iaload, 1) := by decide +kernel
theorem d_Md_findMatrix_87 : decode b_Md_findMatrix 87 = .ok (.istore 4, 2) := by decide +kernel
theorem d_Md_findMatrix_89 : decode b_Md_findMatrix 89 = .ok (.aload_n 0, 1) := by decide +kernel
theorem d_Md_findMatrix_90 : decode b_Md_findMatrix 90 = .ok (.getfield 114, 3) := by decide +kernel
theorem d_Md_findMatrix_93 : decode b_Md_findMatrix 93 = .ok (.bipush 20, 2) := by decide +kernel
theorem d_Md_findMatrix_95 : decode b_Md_findMatrix 95 = .ok (.iload_n 1, 1) := by decide +kernel
theorem d_Md_findMatrix_96 : decode b_Md_findMatrix 96 = .ok (.imul, 1) := by decide +kernel
theorem d_Md_findMatrix_97 : decode b_Md_findMatrix 97 = .ok (.aload_n 0, 1) := by decide +kernel
theorem d_Md_findMatrix_98 : decode b_Md_findMatrix 98 = .ok (.getfield 37, 3) := by decide +kernel
theorem d_Md_findMatrix_101 : decode b_Md_findMatrix 101 = .ok (.getfield 306, 3) := by decide +kernel
theorem d_Md_findMatrix_104 : decode b_Md_findMatrix 104 = .ok (.iload_n 1, 1) := by decide +kernel
theorem d_Md_findMatrix_105 : decode b_Md_findMatrix 105 = .ok (.iaload, 1) := by decide +kernel
theorem d_Md_findMatrix_106 : decode b_Md_findMatrix 106 = .ok (.iconst 1, 1) := by decide +kernel
theorem d_Md_findMatrix_107 : decode b_Md_findMatrix 107 = .ok (.if_icmp .ne 7, 3) := by decide +kernel
theorem d_Md_findMatrix_110 : decode b_Md_findMatrix 110 = .ok (.iload_n 2, 1) := by decide +kernel
theorem d_Md_findMatrix_111 : decode b_Md_findMatrix 111 = .ok (.goto 4, 3) := by decide +kernel
theorem d_Md_findMatrix_114 : decode b_Md_findMatrix 114 = .ok (.iload_n 3, 1) := by decide +kernel
theorem d_Md_findMatrix_115 : decode b_Md_findMatrix 115 = .ok (.iadd, 1) := by decide +kernel
theorem d_Md_findMatrix_116 : decode b_Md_findMatrix 116 = .ok (.dup2, 1) := by decide +kernel
theorem d_Md_findMatrix_117 : decode b_Md_findMatrix 117 = .ok (.laload, 1) := by decide +kernel
theorem d_Md_findMatrix_118 : decode b_Md_findMatrix 118 = .ok (.lconst 1, 1) := by decide +kernel
theorem d_Md_findMatrix_119 : decode b_Md_findMatrix 119 = .ok (.ladd, 1) := by decide +kernel
theorem d_Md_findMatrix_120 : decode b_Md_findMatrix 120 = .ok (.lastore, 1) := by decide +kernel
theorem d_Md_findMatrix_121 : decode b_Md_findMatrix 121 = .ok (.aload_n 0, 1) := by decide +kernel
theorem d_Md_findMatrix_122 : decode b_Md_findMatrix 122 = .ok (.getfield 111, 3) := by decide +kernel
theorem d_Md_findMatrix_125 : decode b_Md_findMatrix 125 = .ok (.bipush 20, 2) := by decide +kernel
theorem d_Md_findMatrix_127 : decode b_Md_findMatrix 127 = .ok (.iload_n 1, 1) := by decide +kernel
theorem d_Md_findMatrix_128 : decode b_Md_findMatrix 128 = .ok (.imul, 1) := by decide +kernel
theorem d_Md_findMatrix_129 : decode b_Md_findMatrix 129 = .ok (.aload_n 0, 1) := by decide +kernel
theorem d_Md_findMatrix_130 : decode b_Md_findMatrix 130 = .ok (.getfield 37, 3) := by decide +kernel
theorem d_Md_findMatrix_133 : decode b_Md_findMatrix 133 = .ok (.getfield 306, 3) := by decide +kernel
theorem d_Md_findMatrix_136 : decode b_Md_findMatrix 136 = .ok (.iload_n 1, 1) := by decide +kernel
theorem d_Md_findMatrix_137 : decode b_Md_findMatrix 137 = .ok (.iaload, 1) := by decide +kernel
theorem d_Md_findMatrix_138 : decode b_Md_findMatrix 138 = .ok (.iconst 1, 1) := by decide +kernel
theorem d_Md_findMatrix_139 : decode b_Md_findMatrix 139 = .ok (.if_icmp .ne 7, 3) := by decide +kernel
theorem d_Md_findMatrix_142 : decode b_Md_findMatrix 142 = .ok (.iload_n 3, 1) := by decide +kernel
theorem d_Md_findMatrix_143 : decode b_Md_findMatrix 143 = .ok (.goto 4, 3) := by decide +kernel
theorem d_Md_findMatrix_146 : decode b_Md_findMatrix 146 = .ok (.iload_n 2, 1) := by decide +kernel
theorem d_Md_findMatrix_147 : decode b_Md_findMatrix 147 = .ok (.iadd, 1) := by decide +kernel
theorem d_Md_findMatrix_148 : decode b_Md_findMatrix 148 = .ok (.dup2, 1) := by decide +kernel
theorem d_Md_findMatrix_149 : decode b_Md_findMatrix 149 = .ok (.laload, 1) := by decide +kernel
theorem d_Md_findMatrix_150 : decode b_Md_findMatrix 150 = .ok (.lconst 1, 1) := by decide +kernel
theorem d_Md_findMatrix_151 : decode b_Md_findMatrix 151 = .ok (.lsub, 1) := by decide +kernel
theorem d_Md_findMatrix_152 : decode b_Md_findMatrix 152 = .ok (.lastore, 1) := by decide +kernel
theorem d_Md_findMatrix_153 : decode b_Md_findMatrix 153 = .ok (.aload_n 0, 1) := by decide +kernel
theorem d_Md_findMatrix_154 : decode b_Md_findMatrix 154 = .ok (.getfield 111, 3) := by decide +kernel
theorem d_Md_findMatrix_157 : decode b_Md_findMatrix 157 = .ok (.bipush 20, 2) := by decide +kernel
theorem d_Md_findMatrix_159 : decode b_Md_findMatrix 159 = .ok (.iload_n 1, 1) := by decide +kernel
