theorem d_Md_number_13 : decode b_Md_number 13 = .ok (.lreturn, 1) := by decide +kernel
theorem d_Md_signed_15 : decode b_Md_signed 15 = .ok (.aload_n 0, 1) := by decide +kernel
theorem d_Md_signed_16 : decode b_Md_signed 16 = .ok (.iconst 0, 1) := by decide +kernel
theorem d_Md_signed_17 : decode b_Md_signed 17 = .ok (.invokevirtual 185, 3) := by decide +kernel
theorem d_Md_signed_20 : decode b_Md_signed 20 = .ok (.lstore_n 2, 1) := by decide +kernel
theorem d_Md_signed_21 : decode b_Md_signed 21 = .ok (.iload_n 1, 1) := by decide +kernel
theorem d_Md_signed_22 : decode b_Md_signed 22 = .ok (.ifCond .eq 8, 3) := by decide +kernel
theorem d_Md_signed_30 : decode b_Md_signed 30 = .ok (.lload_n 2, 1) := by decide +kernel
theorem d_Md_signed_31 : decode b_Md_signed 31 = .ok (.lreturn, 1) := by decide +kernel
theorem d_Md_signed_25 : decode b_Md_signed 25 = .ok (.lload_n 2, 1) := by decide +kernel
theorem d_Md_signed_26 : decode b_Md_signed 26 = .ok (.lneg, 1) := by decide +kernel
theorem d_Md_signed_27 : decode b_Md_signed 27 = .ok (.goto 4, 3) := by decide +kernel
theorem d_Md_signed_0 : decode b_Md_signed 0 = .ok (.aload_n 0, 1) := by decide +kernel
theorem d_Md_signed_1 : decode b_Md_signed 1 = .ok (.bipush 45, 2) := by decide +kernel
theorem d_Md_signed_3 : decode b_Md_signed 3 = .ok (.invokevirtual 176, 3) := by decide +kernel
theorem d_Md_signed_6 : decode b_Md_signed 6 = .ok (.istore_n 1, 1) := by decide +kernel
theorem d_Md_signed_7 : decode b_Md_signed 7 = .ok (.iload_n 1, 1) := by decide +kernel
theorem d_Md_signed_8 : decode b_Md_signed 8 = .ok (.ifCond .eq 7, 3) := by decide +kernel
theorem d_Md_signed_11 : decode b_Md_signed 11 = .ok (.aload_n 0, 1) := by decide +kernel
theorem d_Md_signed_12 : decode b_Md_signed 12 = .ok (.invokevirtual 179, 3) := by decide +kernel
theorem d_Md_letter_120 : decode b_Md_letter 120 = .ok (.iastore, 1) := by decide +kernel
theorem d_Md_letter_121 : decode b_Md_letter 121 = .ok (.iinc 4 1, 3) := by decide +kernel
theorem d_Md_letter_124 : decode b_Md_letter 124 = .ok (.goto (-67), 3) := by decide +kernel
theorem d_Md_letter_78 : decode b_Md_letter 78 = .ok (.istore 5, 2) := by decide +kernel
theorem d_Md_letter_80 : decode b_Md_letter 80 = .ok (.aload_n 0, 1) := by decide +kernel
theorem d_Md_letter_81 : decode b_Md_letter 81 = .ok (.getfield 403, 3) := by decide +kernel
theorem d_Md_letter_84 : decode b_Md_letter 84 = .ok (.bipush 9, 2) := by decide +kernel
theorem d_Md_letter_86 : decode b_Md_letter 86 = .ok (.aload_n 0, 1) := by decide +kernel
theorem d_Md_letter_87 : decode b_Md_letter 87 = .ok (.getfield 409, 3) := by decide +kernel
theorem d_Md_letter_90 : decode b_Md_letter 90 = .ok (.imul, 1) := by decide +kernel
theorem d_Md_letter_91 : decode b_Md_letter 91 = .ok (.iload 4, 2) := by decide +kernel
theorem d_Md_letter_93 : decode b_Md_letter 93 = .ok (.iadd, 1) := by decide +kernel
theorem d_Md_letter_94 : decode b_Md_letter 94 = .ok (.iload 5, 2) := by decide +kernel
theorem d_Md_letter_96 : decode b_Md_letter 96 = .ok (.iload_n 3, 1) := by decide +kernel
theorem d_Md_letter_97 : decode b_Md_letter 97 = .ok (.if_icmp .ne 9, 3) := by decide +kernel
theorem d_Md_letter_106 : decode b_Md_letter 106 = .ok (.iload 5, 2) := by decide +kernel
theorem d_Md_letter_108 : decode b_Md_letter 108 = .ok (.iload_n 3, 1) := by decide +kernel
theorem d_Md_letter_109 : decode b_Md_letter 109 = .ok (.iconst 1, 1) := by decide +kernel
theorem d_Md_letter_110 : decode b_Md_letter 110 = .ok (.iadd, 1) := by decide +kernel
theorem d_Md_letter_111 : decode b_Md_letter 111 = .ok (.if_icmp .ne 7, 3) := by decide +kernel
theorem d_Md_letter_118 : decode b_Md_letter 118 = .ok (.iload 5, 2) := by decide +kernel
theorem d_Md_letter_114 : decode b_Md_letter 114 = .ok (.iload_n 3, 1) := by decide +kernel
theorem d_Md_letter_115 : decode b_Md_letter 115 = .ok (.goto 5, 3) := by decide +kernel
theorem d_Md_letter_100 : decode b_Md_letter 100 = .ok (.iload_n 3, 1) := by decide +kernel
theorem d_Md_letter_101 : decode b_Md_letter 101 = .ok (.iconst 1, 1) := by decide +kernel
theorem d_Md_letter_102 : decode b_Md_letter 102 = .ok (.iadd, 1) := by decide +kernel
theorem d_Md_letter_103 : decode b_Md_letter 103 = .ok (.goto 17, 3) := by decide +kernel
theorem d_Md_letter_57 : decode b_Md_letter 57 = .ok (.iload 4, 2) := by decide +kernel
theorem d_Md_letter_59 : decode b_Md_letter 59 = .ok (.iload_n 2, 1) := by decide +kernel
theorem d_Md_letter_60 : decode b_Md_letter 60 = .ok (.if_icmp .gt 67, 3) := by decide +kernel
theorem d_Md_letter_127 : decode b_Md_letter 127 = .ok (.aload_n 0, 1) := by decide +kernel
theorem d_Md_letter_128 : decode b_Md_letter 128 = .ok (.dup, 1) := by decide +kernel
theorem d_Md_letter_129 : decode b_Md_letter 129 = .ok (.getfield 409, 3) := by decide +kernel
theorem d_Md_letter_132 : decode b_Md_letter 132 = .ok (.iconst 1, 1) := by decide +kernel
theorem d_Md_letter_133 : decode b_Md_letter 133 = .ok (.iadd, 1) := by decide +kernel
theorem d_Md_letter_134 : decode b_Md_letter 134 = .ok (.putfield 409, 3) := by decide +kernel
theorem d_Md_letter_137 : decode b_Md_letter 137 = .ok (.return_, 1) := by decide +kernel
theorem d_Md_letter_63 : decode b_Md_letter 63 = .ok (.iload_n 1, 1) := by decide +kernel
theorem d_Md_letter_64 : decode b_Md_letter 64 = .ok (.ifCond .ge 12, 3) := by decide +kernel
theorem d_Md_letter_76 : decode b_Md_letter 76 = .ok (.iload 4, 2) := by decide +kernel
theorem d_Md_letter_67 : decode b_Md_letter 67 = .ok (.iload_n 2, 1) := by decide +kernel
theorem d_Md_letter_68 : decode b_Md_letter 68 = .ok (.iconst 1, 1) := by decide +kernel
theorem d_Md_letter_69 : decode b_Md_letter 69 = .ok (.iadd, 1) := by decide +kernel
theorem d_Md_letter_70 : decode b_Md_letter 70 = .ok (.iload 4, 2) := by decide +kernel
theorem d_Md_letter_72 : decode b_Md_letter 72 = .ok (.isub, 1) := by decide +kernel
theorem d_Md_letter_73 : decode b_Md_letter 73 = .ok (.goto 5, 3) := by decide +kernel
theorem d_Md_letter_54 : decode b_Md_letter 54 = .ok (.iconst 1, 1) := by decide +kernel
theorem d_Md_letter_55 : decode b_Md_letter 55 = .ok (.istore 4, 2) := by decide +kernel
theorem d_Md_letter_33 : decode b_Md_letter 33 = .ok (.iload 4, 2) := by decide +kernel
theorem d_Md_letter_35 : decode b_Md_letter 35 = .ok (.aload_n 0, 1) := by decide +kernel
theorem d_Md_letter_36 : decode b_Md_letter 36 = .ok (.getfield 409, 3) := by decide +kernel
theorem d_Md_letter_39 : decode b_Md_letter 39 = .ok (.if_icmp .ge 15, 3) := by decide +kernel
theorem d_Md_letter_42 : decode b_Md_letter 42 = .ok (.aload_n 0, 1) := by decide +kernel
theorem d_Md_letter_43 : decode b_Md_letter 43 = .ok (.iload 4, 2) := by decide +kernel
theorem d_Md_letter_45 : decode b_Md_letter 45 = .ok (.invokestatic 412, 3) := by decide +kernel
theorem d_Md_letter_48 : decode b_Md_letter 48 = .ok (.iinc 4 1, 3) := by decide +kernel
theorem d_Md_letter_51 : decode b_Md_letter 51 = .ok (.goto (-18), 3) := by decide +kernel
theorem d_Md_letter_15 : decode b_Md_letter 15 = .ok (.istore_n 3, 1) := by decide +kernel
theorem d_Md_letter_16 : decode b_Md_letter 16 = .ok (.iload_n 1, 1) := by decide +kernel
theorem d_Md_letter_17 : decode b_Md_letter 17 = .ok (.ifCond .ge 37, 3) := by decide +kernel
theorem d_Md_letter_20 : decode b_Md_letter 20 = .ok (.aload_n 0, 1) := by decide +kernel
theorem d_Md_letter_21 : decode b_Md_letter 21 = .ok (.dup, 1) := by decide +kernel
theorem d_Md_letter_22 : decode b_Md_letter 22 = .ok (.getfield 406, 3) := by decide +kernel
theorem d_Md_letter_25 : decode b_Md_letter 25 = .ok (.iconst 1, 1) := by decide +kernel
theorem d_Md_letter_26 : decode b_Md_letter 26 = .ok (.isub, 1) := by decide +kernel
theorem d_Md_letter_27 : decode b_Md_letter 27 = .ok (.putfield 406, 3) := by decide +kernel
theorem d_Md_letter_30 : decode b_Md_letter 30 = .ok (.iconst 0, 1) := by decide +kernel
theorem d_Md_letter_31 : decode b_Md_letter 31 = .ok (.istore 4, 2) := by decide +kernel
theorem d_Md_letter_0 : decode b_Md_letter 0 = .ok (.aload_n 0, 1) := by decide +kernel
theorem d_Md_letter_1 : decode b_Md_letter 1 = .ok (.getfield 395, 3) := by decide +kernel
theorem d_Md_letter_4 : decode b_Md_letter 4 = .ok (.istore_n 2, 1) := by decide +kernel
theorem d_Md_letter_5 : decode b_Md_letter 5 = .ok (.iload_n 1, 1) := by decide +kernel
theorem d_Md_letter_6 : decode b_Md_letter 6 = .ok (.ifCond .ge 8, 3) := by decide +kernel
theorem d_Md_letter_14 : decode b_Md_letter 14 = .ok (.iload_n 1, 1) := by decide +kernel
theorem d_Md_letter_9 : decode b_Md_letter 9 = .ok (.iload_n 1, 1) := by decide +kernel
theorem d_Md_letter_10 : decode b_Md_letter 10 = .ok (.ineg, 1) := by decide +kernel
theorem d_Md_letter_11 : decode b_Md_letter 11 = .ok (.goto 4, 3) := by decide +kernel
theorem d_Md_findEdges_230 : decode b_Md_findEdges 230 = .ok (.aload_n 0, 1) := by decide +kernel
theorem d_Md_findEdges_231 : decode b_Md_findEdges 231 = .ok (.getfield 75, 3) := by decide +kernel
theorem d_Md_findEdges_234 : decode b_Md_findEdges 234 = .ok (.iload_n 1, 1) := by decide +kernel
theorem d_Md_findEdges_235 : decode b_Md_findEdges 235 = .ok (.aload_n 0, 1) := by decide +kernel
theorem d_Md_findEdges_236 : decode b_Md_findEdges 236 = .ok (.getfield 81, 3) := by decide +kernel
theorem d_Md_findEdges_239 : decode b_Md_findEdges 239 = .ok (.aload_n 0, 1) := by decide +kernel
theorem d_Md_findEdges_240 : decode b_Md_findEdges 240 = .ok (.getfield 72, 3) := by decide +kernel
theorem d_Md_findEdges_243 : decode b_Md_findEdges 243 = .ok (.iload_n 1, 1) := by decide +kernel
theorem d_Md_findEdges_244 : decode b_Md_findEdges 244 = .ok (.iaload, 1) := by decide +kernel
theorem d_Md_findEdges_245 : decode b_Md_findEdges 245 = .ok (.iconst 2, 1) := by decide +kernel
theorem d_Md_findEdges_246 : decode b_Md_findEdges 246 = .ok (.ixor, 1) := by decide +kernel
theorem d_Md_findEdges_247 : decode b_Md_findEdges 247 = .ok (.iaload, 1) := by decide +kernel
theorem d_Md_findEdges_248 : decode b_Md_findEdges 248 = .ok (.iastore, 1) := by decide +kernel
theorem d_Md_findEdges_249 : decode b_Md_findEdges 249 = .ok (.iinc 1 1, 3) := by decide +kernel
theorem d_Md_findEdges_252 : decode b_Md_findEdges 252 = .ok (.goto (-30), 3) := by decide +kernel
theorem d_Md_findEdges_190 : decode b_Md_findEdges 190 = .ok (.aload_n 0, 1) := by decide +kernel
theorem d_Md_findEdges_191 : decode b_Md_findEdges 191 = .ok (.getfield 81, 3) := by decide +kernel
theorem d_Md_findEdges_194 : decode b_Md_findEdges 194 = .ok (.aload_n 0, 1) := by decide +kernel
theorem d_Md_findEdges_195 : decode b_Md_findEdges 195 = .ok (.getfield 69, 3) := by decide +kernel
theorem d_Md_findEdges_198 : decode b_Md_findEdges 198 = .ok (.iload_n 1, 1) := by decide +kernel
theorem d_Md_findEdges_199 : decode b_Md_findEdges 199 = .ok (.iaload, 1) := by decide +kernel
theorem d_Md_findEdges_200 : decode b_Md_findEdges 200 = .ok (.iload_n 1, 1) := by decide +kernel
theorem d_Md_findEdges_201 : decode b_Md_findEdges 201 = .ok (.iastore, 1) := by decide +kernel
theorem d_Md_findEdges_202 : decode b_Md_findEdges 202 = .ok (.aload_n 0, 1) := by decide +kernel
theorem d_Md_findEdges_203 : decode b_Md_findEdges 203 = .ok (.getfield 81, 3) := by decide +kernel
theorem d_Md_findEdges_206 : decode b_Md_findEdges 206 = .ok (.aload_n 0, 1) := by decide +kernel
theorem d_Md_findEdges_207 : decode b_Md_findEdges 207 = .ok (.getfield 72, 3) := by decide +kernel
theorem d_Md_findEdges_210 : decode b_Md_findEdges 210 = .ok (.iload_n 1, 1) := by decide +kernel
theorem d_Md_findEdges_211 : decode b_Md_findEdges 211 = .ok (.iaload, 1) := by decide +kernel
theorem d_Md_findEdges_212 : decode b_Md_findEdges 212 = .ok (.iload_n 1, 1) := by decide +kernel
theorem d_Md_findEdges_213 : decode b_Md_findEdges 213 = .ok (.iastore, 1) := by decide +kernel
theorem d_Md_findEdges_214 : decode b_Md_findEdges 214 = .ok (.iinc 1 1, 3) := by decide +kernel
theorem d_Md_findEdges_217 : decode b_Md_findEdges 217 = .ok (.goto (-35), 3) := by decide +kernel
theorem d_Md_findEdges_174 : decode b_Md_findEdges 174 = .ok (.iinc 1 1, 3) := by decide +kernel
theorem d_Md_findEdges_177 : decode b_Md_findEdges 177 = .ok (.goto (-43), 3) := by decide +kernel
theorem d_Md_findEdges_147 : decode b_Md_findEdges 147 = .ok (.aload_n 0, 1) := by decide +kernel
theorem d_Md_findEdges_148 : decode b_Md_findEdges 148 = .ok (.iload_n 1, 1) := by decide +kernel
theorem d_Md_findEdges_149 : decode b_Md_findEdges 149 = .ok (.invokevirtual 315, 3) := by decide +kernel
theorem d_Md_findEdges_152 : decode b_Md_findEdges 152 = .ok (.ifCond .eq 22, 3) := by decide +kernel
theorem d_Md_findEdges_155 : decode b_Md_findEdges 155 = .ok (.aload_n 0, 1) := by decide +kernel
theorem d_Md_findEdges_156 : decode b_Md_findEdges 156 = .ok (.getfield 72, 3) := by decide +kernel
theorem d_Md_findEdges_159 : decode b_Md_findEdges 159 = .ok (.aload_n 0, 1) := by decide +kernel
theorem d_Md_findEdges_160 : decode b_Md_findEdges 160 = .ok (.aload_n 0, 1) := by decide +kernel
theorem d_Md_findEdges_161 : decode b_Md_findEdges 161 = .ok (.getfield 37, 3) := by decide +kernel
theorem d_Md_findEdges_164 : decode b_Md_findEdges 164 = .ok (.getfield 318, 3) := by decide +kernel
theorem d_Md_findEdges_167 : decode b_Md_findEdges 167 = .ok (.iload_n 1, 1) := by decide +kernel
theorem d_Md_findEdges_168 : decode b_Md_findEdges 168 = .ok (.iaload, 1) := by decide +kernel
theorem d_Md_findEdges_169 : decode b_Md_findEdges 169 = .ok (.invokevirtual 321, 3) := by decide +kernel
theorem d_Md_findEdges_172 : decode b_Md_findEdges 172 = .ok (.iload_n 1, 1) := by decide +kernel
theorem d_Md_findEdges_173 : decode b_Md_findEdges 173 = .ok (.iastore, 1) := by decide +kernel
theorem d_Md_findEdges_126 : decode b_Md_findEdges 126 = .ok (.iinc 1 1, 3) := by decide +kernel
theorem d_Md_findEdges_129 : decode b_Md_findEdges 129 = .ok (.goto (-122), 3) := by decide +kernel
theorem d_Md_findEdges_94 : decode b_Md_findEdges 94 = .ok (.aload_n 0, 1) := by decide +kernel
theorem d_Md_findEdges_95 : decode b_Md_findEdges 95 = .ok (.getfield 66, 3) := by decide +kernel
theorem d_Md_findEdges_98 : decode b_Md_findEdges 98 = .ok (.iload_n 2, 1) := by decide +kernel
theorem d_Md_findEdges_99 : decode b_Md_findEdges 99 = .ok (.aload_n 0, 1) := by decide +kernel
theorem d_Md_findEdges_100 : decode b_Md_findEdges 100 = .ok (.getfield 37, 3) := by decide +kernel
theorem d_Md_findEdges_103 : decode b_Md_findEdges 103 = .ok (.getfield 318, 3) := by decide +kernel
theorem d_Md_findEdges_106 : decode b_Md_findEdges 106 = .ok (.iload_n 1, 1) := by decide +kernel
theorem d_Md_findEdges_107 : decode b_Md_findEdges 107 = .ok (.iaload, 1) := by decide +kernel
theorem d_Md_findEdges_108 : decode b_Md_findEdges 108 = .ok (.iastore, 1) := by decide +kernel
theorem d_Md_findEdges_109 : decode b_Md_findEdges 109 = .ok (.aload_n 0, 1) := by decide +kernel
theorem d_Md_findEdges_110 : decode b_Md_findEdges 110 = .ok (.getfield 69, 3) := by decide +kernel
theorem d_Md_findEdges_113 : decode b_Md_findEdges 113 = .ok (.iload_n 2, 1) := by decide +kernel
theorem d_Md_findEdges_114 : decode b_Md_findEdges 114 = .ok (.iload_n 1, 1) := by decide +kernel
theorem d_Md_findEdges_115 : decode b_Md_findEdges 115 = .ok (.iastore, 1) := by decide +kernel
theorem d_Md_findEdges_116 : decode b_Md_findEdges 116 = .ok (.aload_n 0, 1) := by decide +kernel
theorem d_Md_findEdges_117 : decode b_Md_findEdges 117 = .ok (.dup, 1) := by decide +kernel
theorem d_Md_findEdges_118 : decode b_Md_findEdges 118 = .ok (.getfield 309, 3) := by decide +kernel
theorem d_Md_findEdges_121 : decode b_Md_findEdges 121 = .ok (.iconst 1, 1) := by decide +kernel
theorem d_Md_findEdges_122 : decode b_Md_findEdges 122 = .ok (.iadd, 1) := by decide +kernel
theorem d_Md_findEdges_123 : decode b_Md_findEdges 123 = .ok (.putfield 309, 3) := by decide +kernel
theorem d_Md_findEdges_36 : decode b_Md_findEdges 36 = .ok (.iload_n 2, 1) := by decide +kernel
theorem d_Md_findEdges_37 : decode b_Md_findEdges 37 = .ok (.ifCond .le 57, 3) := by decide +kernel
theorem d_Md_findEdges_40 : decode b_Md_findEdges 40 = .ok (.aload_n 0, 1) := by decide +kernel
theorem d_Md_findEdges_41 : decode b_Md_findEdges 41 = .ok (.getfield 66, 3) := by decide +kernel
theorem d_Md_findEdges_44 : decode b_Md_findEdges 44 = .ok (.iload_n 2, 1) := by decide +kernel
theorem d_Md_findEdges_45 : decode b_Md_findEdges 45 = .ok (.iconst 1, 1) := by decide +kernel
theorem d_Md_findEdges_46 : decode b_Md_findEdges 46 = .ok (.isub, 1) := by decide +kernel
theorem d_Md_findEdges_47 : decode b_Md_findEdges 47 = .ok (.iaload, 1) := by decide +kernel
theorem d_Md_findEdges_48 : decode b_Md_findEdges 48 = .ok (.aload_n 0, 1) := by decide +kernel
theorem d_Md_findEdges_49 : decode b_Md_findEdges 49 = .ok (.getfield 37, 3) := by decide +kernel
theorem d_Md_findEdges_52 : decode b_Md_findEdges 52 = .ok (.getfield 318, 3) := by decide +kernel
theorem d_Md_findEdges_55 : decode b_Md_findEdges 55 = .ok (.iload_n 1, 1) := by decide +kernel
theorem d_Md_findEdges_56 : decode b_Md_findEdges 56 = .ok (.iaload, 1) := by decide +kernel
theorem d_Md_findEdges_57 : decode b_Md_findEdges 57 = .ok (.if_icmp .le 37, 3) := by decide +kernel
theorem d_Md_findEdges_60 : decode b_Md_findEdges 60 = .ok (.aload_n 0, 1) := by decide +kernel
theorem d_Md_findEdges_61 : decode b_Md_findEdges 61 = .ok (.getfield 66, 3) := by decide +kernel
theorem d_Md_findEdges_64 : decode b_Md_findEdges 64 = .ok (.iload_n 2, 1) := by decide +kernel
theorem d_Md_findEdges_65 : decode b_Md_findEdges 65 = .ok (.aload_n 0, 1) := by decide +kernel
theorem d_Md_findEdges_66 : decode b_Md_findEdges 66 = .ok (.getfield 66, 3) := by decide +kernel
theorem d_Md_findEdges_69 : decode b_Md_findEdges 69 = .ok (.iload_n 2, 1) := by decide +kernel
theorem d_Md_findEdges_70 : decode b_Md_findEdges 70 = .ok (.iconst 1, 1) := by decide +kernel
theorem d_Md_findEdges_71 : decode b_Md_findEdges 71 = .ok (.isub, 1) := by decide +kernel
theorem d_Md_findEdges_72 : decode b_Md_findEdges 72 = .ok (.iaload, 1) := by decide +kernel
theorem d_Md_findEdges_73 : decode b_Md_findEdges 73 = .ok (.iastore, 1) := by decide +kernel
theorem d_Md_findEdges_74 : decode b_Md_findEdges 74 = .ok (.aload_n 0, 1) := by decide +kernel
theorem d_Md_findEdges_75 : decode b_Md_findEdges 75 = .ok (.getfield 69, 3) := by decide +kernel
theorem d_Md_findEdges_78 : decode b_Md_findEdges 78 = .ok (.iload_n 2, 1) := by decide +kernel
theorem d_Md_findEdges_79 : decode b_Md_findEdges 79 = .ok (.aload_n 0, 1) := by decide +kernel
theorem d_Md_findEdges_80 : decode b_Md_findEdges 80 = .ok (.getfield 69, 3) := by decide +kernel
theorem d_Md_findEdges_83 : decode b_Md_findEdges 83 = .ok (.iload_n 2, 1) := by decide +kernel
theorem d_Md_findEdges_84 : decode b_Md_findEdges 84 = .ok (.iconst 1, 1) := by decide +kernel
