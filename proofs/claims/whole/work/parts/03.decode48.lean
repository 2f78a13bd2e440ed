theorem d_Md_bracket_164 : decode b_Md_bracket 164 = .ok (.imul, 1) := by decide +kernel
theorem d_Md_bracket_165 : decode b_Md_bracket 165 = .ok (.aload_n 0, 1) := by decide +kernel
theorem d_Md_bracket_166 : decode b_Md_bracket 166 = .ok (.getfield 37, 3) := by decide +kernel
theorem d_Md_bracket_169 : decode b_Md_bracket 169 = .ok (.getfield 312, 3) := by decide +kernel
theorem d_Md_bracket_172 : decode b_Md_bracket 172 = .ok (.isub, 1) := by decide +kernel
theorem d_Md_bracket_173 : decode b_Md_bracket 173 = .ok (.iload_n 2, 1) := by decide +kernel
theorem d_Md_bracket_174 : decode b_Md_bracket 174 = .ok (.iconst 1, 1) := by decide +kernel
theorem d_Md_bracket_175 : decode b_Md_bracket 175 = .ok (.isub, 1) := by decide +kernel
theorem d_Md_bracket_176 : decode b_Md_bracket 176 = .ok (.aload_n 0, 1) := by decide +kernel
theorem d_Md_bracket_177 : decode b_Md_bracket 177 = .ok (.getfield 105, 3) := by decide +kernel
theorem d_Md_bracket_180 : decode b_Md_bracket 180 = .ok (.bipush 64, 2) := by decide +kernel
theorem d_Md_bracket_182 : decode b_Md_bracket 182 = .ok (.iload_n 1, 1) := by decide +kernel
theorem d_Md_bracket_183 : decode b_Md_bracket 183 = .ok (.imul, 1) := by decide +kernel
theorem d_Md_bracket_184 : decode b_Md_bracket 184 = .ok (.iload_n 2, 1) := by decide +kernel
theorem d_Md_bracket_185 : decode b_Md_bracket 185 = .ok (.iadd, 1) := by decide +kernel
theorem d_Md_bracket_186 : decode b_Md_bracket 186 = .ok (.laload, 1) := by decide +kernel
theorem d_Md_bracket_187 : decode b_Md_bracket 187 = .ok (.invokevirtual 450, 3) := by decide +kernel
theorem d_Md_bracket_126 : decode b_Md_bracket 126 = .ok (.iload_n 1, 1) := by decide +kernel
theorem d_Md_bracket_127 : decode b_Md_bracket 127 = .ok (.aload_n 0, 1) := by decide +kernel
theorem d_Md_bracket_128 : decode b_Md_bracket 128 = .ok (.getfield 37, 3) := by decide +kernel
theorem d_Md_bracket_131 : decode b_Md_bracket 131 = .ok (.getfield 312, 3) := by decide +kernel
theorem d_Md_bracket_134 : decode b_Md_bracket 134 = .ok (.if_icmp .gt 68, 3) := by decide +kernel
theorem d_Md_bracket_202 : decode b_Md_bracket 202 = .ok (.return_, 1) := by decide +kernel
theorem d_Md_bracket_137 : decode b_Md_bracket 137 = .ok (.iconst 1, 1) := by decide +kernel
theorem d_Md_bracket_138 : decode b_Md_bracket 138 = .ok (.istore_n 2, 1) := by decide +kernel
theorem d_Md_bracket_74 : decode b_Md_bracket 74 = .ok (.iload_n 3, 1) := by decide +kernel
theorem d_Md_bracket_75 : decode b_Md_bracket 75 = .ok (.aload_n 0, 1) := by decide +kernel
theorem d_Md_bracket_76 : decode b_Md_bracket 76 = .ok (.getfield 37, 3) := by decide +kernel
theorem d_Md_bracket_79 : decode b_Md_bracket 79 = .ok (.getfield 312, 3) := by decide +kernel
theorem d_Md_bracket_82 : decode b_Md_bracket 82 = .ok (.if_icmp .ge 17, 3) := by decide +kernel
theorem d_Md_bracket_99 : decode b_Md_bracket 99 = .ok (.aload_n 0, 1) := by decide +kernel
theorem d_Md_bracket_100 : decode b_Md_bracket 100 = .ok (.getfield 105, 3) := by decide +kernel
theorem d_Md_bracket_103 : decode b_Md_bracket 103 = .ok (.bipush 64, 2) := by decide +kernel
theorem d_Md_bracket_105 : decode b_Md_bracket 105 = .ok (.iload_n 2, 1) := by decide +kernel
theorem d_Md_bracket_106 : decode b_Md_bracket 106 = .ok (.imul, 1) := by decide +kernel
theorem d_Md_bracket_107 : decode b_Md_bracket 107 = .ok (.aload_n 0, 1) := by decide +kernel
theorem d_Md_bracket_108 : decode b_Md_bracket 108 = .ok (.iload_n 1, 1) := by decide +kernel
theorem d_Md_bracket_109 : decode b_Md_bracket 109 = .ok (.invokevirtual 447, 3) := by decide +kernel
theorem d_Md_bracket_112 : decode b_Md_bracket 112 = .ok (.iadd, 1) := by decide +kernel
theorem d_Md_bracket_113 : decode b_Md_bracket 113 = .ok (.dup2, 1) := by decide +kernel
theorem d_Md_bracket_114 : decode b_Md_bracket 114 = .ok (.laload, 1) := by decide +kernel
theorem d_Md_bracket_115 : decode b_Md_bracket 115 = .ok (.lconst 1, 1) := by decide +kernel
theorem d_Md_bracket_116 : decode b_Md_bracket 116 = .ok (.ladd, 1) := by decide +kernel
theorem d_Md_bracket_117 : decode b_Md_bracket 117 = .ok (.lastore, 1) := by decide +kernel
theorem d_Md_bracket_118 : decode b_Md_bracket 118 = .ok (.iinc 1 1, 3) := by decide +kernel
theorem d_Md_bracket_121 : decode b_Md_bracket 121 = .ok (.goto (-64), 3) := by decide +kernel
theorem d_Md_bracket_85 : decode b_Md_bracket 85 = .ok (.iload_n 2, 1) := by decide +kernel
theorem d_Md_bracket_86 : decode b_Md_bracket 86 = .ok (.iload_n 1, 1) := by decide +kernel
theorem d_Md_bracket_87 : decode b_Md_bracket 87 = .ok (.iload_n 3, 1) := by decide +kernel
theorem d_Md_bracket_88 : decode b_Md_bracket 88 = .ok (.ishr, 1) := by decide +kernel
theorem d_Md_bracket_89 : decode b_Md_bracket 89 = .ok (.iconst 1, 1) := by decide +kernel
theorem d_Md_bracket_90 : decode b_Md_bracket 90 = .ok (.iand, 1) := by decide +kernel
theorem d_Md_bracket_91 : decode b_Md_bracket 91 = .ok (.iadd, 1) := by decide +kernel
theorem d_Md_bracket_92 : decode b_Md_bracket 92 = .ok (.istore_n 2, 1) := by decide +kernel
theorem d_Md_bracket_93 : decode b_Md_bracket 93 = .ok (.iinc 3 1, 3) := by decide +kernel
theorem d_Md_bracket_96 : decode b_Md_bracket 96 = .ok (.goto (-22), 3) := by decide +kernel
theorem d_Md_bracket_57 : decode b_Md_bracket 57 = .ok (.iload_n 1, 1) := by decide +kernel
theorem d_Md_bracket_58 : decode b_Md_bracket 58 = .ok (.iconst 1, 1) := by decide +kernel
theorem d_Md_bracket_59 : decode b_Md_bracket 59 = .ok (.aload_n 0, 1) := by decide +kernel
theorem d_Md_bracket_60 : decode b_Md_bracket 60 = .ok (.getfield 37, 3) := by decide +kernel
theorem d_Md_bracket_63 : decode b_Md_bracket 63 = .ok (.getfield 312, 3) := by decide +kernel
theorem d_Md_bracket_66 : decode b_Md_bracket 66 = .ok (.ishl, 1) := by decide +kernel
theorem d_Md_bracket_67 : decode b_Md_bracket 67 = .ok (.if_icmp .ge 57, 3) := by decide +kernel
theorem d_Md_bracket_124 : decode b_Md_bracket 124 = .ok (.iconst 0, 1) := by decide +kernel
theorem d_Md_bracket_125 : decode b_Md_bracket 125 = .ok (.istore_n 1, 1) := by decide +kernel
theorem d_Md_bracket_70 : decode b_Md_bracket 70 = .ok (.iconst 0, 1) := by decide +kernel
theorem d_Md_bracket_71 : decode b_Md_bracket 71 = .ok (.istore_n 2, 1) := by decide +kernel
theorem d_Md_bracket_72 : decode b_Md_bracket 72 = .ok (.iconst 0, 1) := by decide +kernel
theorem d_Md_bracket_73 : decode b_Md_bracket 73 = .ok (.istore_n 3, 1) := by decide +kernel
theorem d_Md_bracket_35 : decode b_Md_bracket 35 = .ok (.iload_n 1, 1) := by decide +kernel
theorem d_Md_bracket_36 : decode b_Md_bracket 36 = .ok (.sipush 704, 3) := by decide +kernel
theorem d_Md_bracket_39 : decode b_Md_bracket 39 = .ok (.if_icmp .ge 16, 3) := by decide +kernel
theorem d_Md_bracket_55 : decode b_Md_bracket 55 = .ok (.iconst 0, 1) := by decide +kernel
theorem d_Md_bracket_56 : decode b_Md_bracket 56 = .ok (.istore_n 1, 1) := by decide +kernel
theorem d_Md_bracket_42 : decode b_Md_bracket 42 = .ok (.aload_n 0, 1) := by decide +kernel
theorem d_Md_bracket_43 : decode b_Md_bracket 43 = .ok (.getfield 105, 3) := by decide +kernel
theorem d_Md_bracket_46 : decode b_Md_bracket 46 = .ok (.iload_n 1, 1) := by decide +kernel
theorem d_Md_bracket_47 : decode b_Md_bracket 47 = .ok (.lconst 0, 1) := by decide +kernel
theorem d_Md_bracket_48 : decode b_Md_bracket 48 = .ok (.lastore, 1) := by decide +kernel
theorem d_Md_bracket_49 : decode b_Md_bracket 49 = .ok (.iinc 1 1, 3) := by decide +kernel
theorem d_Md_bracket_52 : decode b_Md_bracket 52 = .ok (.goto (-17), 3) := by decide +kernel
theorem d_Md_bracket_33 : decode b_Md_bracket 33 = .ok (.iconst 0, 1) := by decide +kernel
theorem d_Md_bracket_34 : decode b_Md_bracket 34 = .ok (.istore_n 1, 1) := by decide +kernel
theorem d_Md_bracket_0 : decode b_Md_bracket 0 = .ok (.aload_n 0, 1) := by decide +kernel
theorem d_Md_bracket_1 : decode b_Md_bracket 1 = .ok (.invokevirtual 444, 3) := by decide +kernel
theorem d_Md_bracket_4 : decode b_Md_bracket 4 = .ok (.aload_n 0, 1) := by decide +kernel
theorem d_Md_bracket_5 : decode b_Md_bracket 5 = .ok (.getfield 37, 3) := by decide +kernel
theorem d_Md_bracket_8 : decode b_Md_bracket 8 = .ok (.getfield 312, 3) := by decide +kernel
theorem d_Md_bracket_11 : decode b_Md_bracket 11 = .ok (.ifCond .ne 22, 3) := by decide +kernel
theorem d_Md_bracket_14 : decode b_Md_bracket 14 = .ok (.aload_n 0, 1) := by decide +kernel
theorem d_Md_bracket_15 : decode b_Md_bracket 15 = .ok (.getfield 37, 3) := by decide +kernel
theorem d_Md_bracket_18 : decode b_Md_bracket 18 = .ok (.getfield 354, 3) := by decide +kernel
theorem d_Md_bracket_21 : decode b_Md_bracket 21 = .ok (.ifCond .ne 12, 3) := by decide +kernel
theorem d_Md_bracket_24 : decode b_Md_bracket 24 = .ok (.aload_n 0, 1) := by decide +kernel
theorem d_Md_bracket_25 : decode b_Md_bracket 25 = .ok (.getfield 96, 3) := by decide +kernel
theorem d_Md_bracket_28 : decode b_Md_bracket 28 = .ok (.bipush 100, 2) := by decide +kernel
theorem d_Md_bracket_30 : decode b_Md_bracket 30 = .ok (.lconst 1, 1) := by decide +kernel
theorem d_Md_bracket_31 : decode b_Md_bracket 31 = .ok (.lastore, 1) := by decide +kernel
theorem d_Md_bracket_32 : decode b_Md_bracket 32 = .ok (.return_, 1) := by decide +kernel
theorem d_Md_jones_75 : decode b_Md_jones 75 = .ok (.iload_n 2, 1) := by decide +kernel
theorem d_Md_jones_76 : decode b_Md_jones 76 = .ok (.sipush 200, 3) := by decide +kernel
theorem d_Md_jones_79 : decode b_Md_jones 79 = .ok (.if_icmp .gt 21, 3) := by decide +kernel
theorem d_Md_jones_100 : decode b_Md_jones 100 = .ok (.return_, 1) := by decide +kernel
theorem d_Md_jones_82 : decode b_Md_jones 82 = .ok (.aload_n 0, 1) := by decide +kernel
theorem d_Md_jones_83 : decode b_Md_jones 83 = .ok (.getfield 96, 3) := by decide +kernel
theorem d_Md_jones_86 : decode b_Md_jones 86 = .ok (.iload_n 2, 1) := by decide +kernel
theorem d_Md_jones_87 : decode b_Md_jones 87 = .ok (.aload_n 0, 1) := by decide +kernel
theorem d_Md_jones_88 : decode b_Md_jones 88 = .ok (.getfield 99, 3) := by decide +kernel
theorem d_Md_jones_91 : decode b_Md_jones 91 = .ok (.iload_n 2, 1) := by decide +kernel
theorem d_Md_jones_92 : decode b_Md_jones 92 = .ok (.laload, 1) := by decide +kernel
theorem d_Md_jones_93 : decode b_Md_jones 93 = .ok (.lastore, 1) := by decide +kernel
theorem d_Md_jones_94 : decode b_Md_jones 94 = .ok (.iinc 2 1, 3) := by decide +kernel
theorem d_Md_jones_97 : decode b_Md_jones 97 = .ok (.goto (-22), 3) := by decide +kernel
theorem d_Md_jones_66 : decode b_Md_jones 66 = .ok (.lastore, 1) := by decide +kernel
theorem d_Md_jones_67 : decode b_Md_jones 67 = .ok (.iinc 2 1, 3) := by decide +kernel
theorem d_Md_jones_70 : decode b_Md_jones 70 = .ok (.goto (-59), 3) := by decide +kernel
theorem d_Md_jones_45 : decode b_Md_jones 45 = .ok (.lstore 4, 2) := by decide +kernel
theorem d_Md_jones_47 : decode b_Md_jones 47 = .ok (.aload_n 0, 1) := by decide +kernel
theorem d_Md_jones_48 : decode b_Md_jones 48 = .ok (.getfield 99, 3) := by decide +kernel
theorem d_Md_jones_51 : decode b_Md_jones 51 = .ok (.iload_n 2, 1) := by decide +kernel
theorem d_Md_jones_52 : decode b_Md_jones 52 = .ok (.iload_n 1, 1) := by decide +kernel
theorem d_Md_jones_53 : decode b_Md_jones 53 = .ok (.iconst 2, 1) := by decide +kernel
theorem d_Md_jones_54 : decode b_Md_jones 54 = .ok (.irem, 1) := by decide +kernel
theorem d_Md_jones_55 : decode b_Md_jones 55 = .ok (.ifCond .ne 8, 3) := by decide +kernel
theorem d_Md_jones_63 : decode b_Md_jones 63 = .ok (.lload 4, 2) := by decide +kernel
theorem d_Md_jones_65 : decode b_Md_jones 65 = .ok (.lneg, 1) := by decide +kernel
theorem d_Md_jones_58 : decode b_Md_jones 58 = .ok (.lload 4, 2) := by decide +kernel
theorem d_Md_jones_60 : decode b_Md_jones 60 = .ok (.goto 6, 3) := by decide +kernel
theorem d_Md_jones_35 : decode b_Md_jones 35 = .ok (.lconst 0, 1) := by decide +kernel
theorem d_Md_jones_36 : decode b_Md_jones 36 = .ok (.goto 9, 3) := by decide +kernel
theorem d_Md_jones_11 : decode b_Md_jones 11 = .ok (.iload_n 2, 1) := by decide +kernel
theorem d_Md_jones_12 : decode b_Md_jones 12 = .ok (.sipush 200, 3) := by decide +kernel
theorem d_Md_jones_15 : decode b_Md_jones 15 = .ok (.if_icmp .gt 58, 3) := by decide +kernel
theorem d_Md_jones_73 : decode b_Md_jones 73 = .ok (.iconst 0, 1) := by decide +kernel
theorem d_Md_jones_74 : decode b_Md_jones 74 = .ok (.istore_n 2, 1) := by decide +kernel
theorem d_Md_jones_18 : decode b_Md_jones 18 = .ok (.iload_n 2, 1) := by decide +kernel
theorem d_Md_jones_19 : decode b_Md_jones 19 = .ok (.iconst 3, 1) := by decide +kernel
theorem d_Md_jones_20 : decode b_Md_jones 20 = .ok (.iload_n 1, 1) := by decide +kernel
theorem d_Md_jones_21 : decode b_Md_jones 21 = .ok (.imul, 1) := by decide +kernel
theorem d_Md_jones_22 : decode b_Md_jones 22 = .ok (.iadd, 1) := by decide +kernel
theorem d_Md_jones_23 : decode b_Md_jones 23 = .ok (.istore_n 3, 1) := by decide +kernel
theorem d_Md_jones_24 : decode b_Md_jones 24 = .ok (.iload_n 3, 1) := by decide +kernel
theorem d_Md_jones_25 : decode b_Md_jones 25 = .ok (.ifCond .lt 10, 3) := by decide +kernel
theorem d_Md_jones_28 : decode b_Md_jones 28 = .ok (.iload_n 3, 1) := by decide +kernel
theorem d_Md_jones_29 : decode b_Md_jones 29 = .ok (.sipush 200, 3) := by decide +kernel
theorem d_Md_jones_32 : decode b_Md_jones 32 = .ok (.if_icmp .le 7, 3) := by decide +kernel
theorem d_Md_jones_39 : decode b_Md_jones 39 = .ok (.aload_n 0, 1) := by decide +kernel
theorem d_Md_jones_40 : decode b_Md_jones 40 = .ok (.getfield 96, 3) := by decide +kernel
theorem d_Md_jones_43 : decode b_Md_jones 43 = .ok (.iload_n 3, 1) := by decide +kernel
theorem d_Md_jones_44 : decode b_Md_jones 44 = .ok (.laload, 1) := by decide +kernel
theorem d_Md_jones_0 : decode b_Md_jones 0 = .ok (.aload_n 0, 1) := by decide +kernel
theorem d_Md_jones_1 : decode b_Md_jones 1 = .ok (.invokevirtual 454, 3) := by decide +kernel
theorem d_Md_jones_4 : decode b_Md_jones 4 = .ok (.aload_n 0, 1) := by decide +kernel
theorem d_Md_jones_5 : decode b_Md_jones 5 = .ok (.invokevirtual 456, 3) := by decide +kernel
theorem d_Md_jones_8 : decode b_Md_jones 8 = .ok (.istore_n 1, 1) := by decide +kernel
theorem d_Md_jones_9 : decode b_Md_jones 9 = .ok (.iconst 0, 1) := by decide +kernel
theorem d_Md_jones_10 : decode b_Md_jones 10 = .ok (.istore_n 2, 1) := by decide +kernel
theorem d_Md_meet_227 : decode b_Md_meet 227 = .ok (.lmul, 1) := by decide +kernel
theorem d_Md_meet_228 : decode b_Md_meet 228 = .ok (.lastore, 1) := by decide +kernel
theorem d_Md_meet_229 : decode b_Md_meet 229 = .ok (.iinc 4 1, 3) := by decide +kernel
theorem d_Md_meet_232 : decode b_Md_meet 232 = .ok (.goto (-40), 3) := by decide +kernel
theorem d_Md_meet_192 : decode b_Md_meet 192 = .ok (.iload 4, 2) := by decide +kernel
theorem d_Md_meet_194 : decode b_Md_meet 194 = .ok (.bipush 16, 2) := by decide +kernel
theorem d_Md_meet_196 : decode b_Md_meet 196 = .ok (.if_icmp .ge 39, 3) := by decide +kernel
theorem d_Md_meet_235 : decode b_Md_meet 235 = .ok (.return_, 1) := by decide +kernel
theorem d_Md_meet_199 : decode b_Md_meet 199 = .ok (.aload_n 0, 1) := by decide +kernel
theorem d_Md_meet_200 : decode b_Md_meet 200 = .ok (.getfield 120, 3) := by decide +kernel
theorem d_Md_meet_203 : decode b_Md_meet 203 = .ok (.iload 4, 2) := by decide +kernel
theorem d_Md_meet_205 : decode b_Md_meet 205 = .ok (.lload_n 1, 1) := by decide +kernel
theorem d_Md_meet_206 : decode b_Md_meet 206 = .ok (.iload_n 3, 1) := by decide +kernel
theorem d_Md_meet_207 : decode b_Md_meet 207 = .ok (.ifCond .eq 13, 3) := by decide +kernel
theorem d_Md_meet_220 : decode b_Md_meet 220 = .ok (.aload_n 0, 1) := by decide +kernel
theorem d_Md_meet_221 : decode b_Md_meet 221 = .ok (.getfield 123, 3) := by decide +kernel
theorem d_Md_meet_224 : decode b_Md_meet 224 = .ok (.iload 4, 2) := by decide +kernel
theorem d_Md_meet_226 : decode b_Md_meet 226 = .ok (.laload, 1) := by decide +kernel
theorem d_Md_meet_210 : decode b_Md_meet 210 = .ok (.aload_n 0, 1) := by decide +kernel
theorem d_Md_meet_211 : decode b_Md_meet 211 = .ok (.getfield 120, 3) := by decide +kernel
theorem d_Md_meet_214 : decode b_Md_meet 214 = .ok (.iload 4, 2) := by decide +kernel
theorem d_Md_meet_216 : decode b_Md_meet 216 = .ok (.laload, 1) := by decide +kernel
theorem d_Md_meet_217 : decode b_Md_meet 217 = .ok (.goto 10, 3) := by decide +kernel
theorem d_Md_meet_188 : decode b_Md_meet 188 = .ok (.istore_n 3, 1) := by decide +kernel
theorem d_Md_meet_189 : decode b_Md_meet 189 = .ok (.iconst 0, 1) := by decide +kernel
theorem d_Md_meet_190 : decode b_Md_meet 190 = .ok (.istore 4, 2) := by decide +kernel
theorem d_Md_meet_173 : decode b_Md_meet 173 = .ok (.aload_n 0, 1) := by decide +kernel
theorem d_Md_meet_174 : decode b_Md_meet 174 = .ok (.getfield 120, 3) := by decide +kernel
theorem d_Md_meet_177 : decode b_Md_meet 177 = .ok (.invokestatic 466, 3) := by decide +kernel
theorem d_Md_meet_180 : decode b_Md_meet 180 = .ok (.ifCond .lt 7, 3) := by decide +kernel
theorem d_Md_meet_187 : decode b_Md_meet 187 = .ok (.iconst 0, 1) := by decide +kernel
theorem d_Md_meet_183 : decode b_Md_meet 183 = .ok (.iconst 1, 1) := by decide +kernel
theorem d_Md_meet_184 : decode b_Md_meet 184 = .ok (.goto 4, 3) := by decide +kernel
theorem d_Md_meet_108 : decode b_Md_meet 108 = .ok (.aload_n 0, 1) := by decide +kernel
theorem d_Md_meet_109 : decode b_Md_meet 109 = .ok (.getfield 120, 3) := by decide +kernel
theorem d_Md_meet_112 : decode b_Md_meet 112 = .ok (.invokestatic 466, 3) := by decide +kernel
theorem d_Md_meet_115 : decode b_Md_meet 115 = .ok (.ifCond .lt 58, 3) := by decide +kernel
theorem d_Md_meet_118 : decode b_Md_meet 118 = .ok (.aload_n 0, 1) := by decide +kernel
theorem d_Md_meet_119 : decode b_Md_meet 119 = .ok (.getfield 123, 3) := by decide +kernel
theorem d_Md_meet_122 : decode b_Md_meet 122 = .ok (.invokestatic 466, 3) := by decide +kernel
theorem d_Md_meet_125 : decode b_Md_meet 125 = .ok (.ifCond .lt 48, 3) := by decide +kernel
theorem d_Md_meet_128 : decode b_Md_meet 128 = .ok (.aload_n 0, 1) := by decide +kernel
theorem d_Md_meet_129 : decode b_Md_meet 129 = .ok (.getfield 120, 3) := by decide +kernel
