theorem d_Rd_readNumber_25 : decode b_Rd_readNumber 25 = .ok (.iconst 3, 1) := by decide +kernel
theorem d_Rd_readNumber_26 : decode b_Rd_readNumber 26 = .ok (.if_icmp .ne 21, 3) := by decide +kernel
theorem d_Rd_readNumber_29 : decode b_Rd_readNumber 29 = .ok (.aload_n 0, 1) := by decide +kernel
theorem d_Rd_readNumber_30 : decode b_Rd_readNumber 30 = .ok (.getfield 113, 3) := by decide +kernel
theorem d_Rd_readNumber_33 : decode b_Rd_readNumber 33 = .ok (.ifCond .ne 14, 3) := by decide +kernel
theorem d_Rd_readNumber_36 : decode b_Rd_readNumber 36 = .ok (.aload_n 0, 1) := by decide +kernel
theorem d_Rd_readNumber_37 : decode b_Rd_readNumber 37 = .ok (.getfield 117, 3) := by decide +kernel
theorem d_Rd_readNumber_40 : decode b_Rd_readNumber 40 = .ok (.ldc2_w 121, 3) := by decide +kernel
theorem d_Rd_readNumber_43 : decode b_Rd_readNumber 43 = .ok (.lcmp, 1) := by decide +kernel
theorem d_Rd_readNumber_44 : decode b_Rd_readNumber 44 = .ok (.ifCond .le 9, 3) := by decide +kernel
theorem d_Rd_readNumber_47 : decode b_Rd_readNumber 47 = .ok (.aload_n 0, 1) := by decide +kernel
theorem d_Rd_readNumber_48 : decode b_Rd_readNumber 48 = .ok (.iconst 4, 1) := by decide +kernel
theorem d_Rd_readNumber_49 : decode b_Rd_readNumber 49 = .ok (.invokevirtual 51, 3) := by decide +kernel
theorem d_Rd_readNumber_52 : decode b_Rd_readNumber 52 = .ok (.ireturn, 1) := by decide +kernel
theorem d_Rd_readNumber_53 : decode b_Rd_readNumber 53 = .ok (.aload_n 0, 1) := by decide +kernel
theorem d_Rd_readNumber_54 : decode b_Rd_readNumber 54 = .ok (.getfield 18, 3) := by decide +kernel
theorem d_Rd_readNumber_57 : decode b_Rd_readNumber 57 = .ok (.iload_n 2, 1) := by decide +kernel
theorem d_Rd_readNumber_58 : decode b_Rd_readNumber 58 = .ok (.i2l, 1) := by decide +kernel
theorem d_Rd_readNumber_59 : decode b_Rd_readNumber 59 = .ok (.aload_n 0, 1) := by decide +kernel
theorem d_Rd_readNumber_60 : decode b_Rd_readNumber 60 = .ok (.getfield 117, 3) := by decide +kernel
theorem d_Rd_readNumber_63 : decode b_Rd_readNumber 63 = .ok (.lmul, 1) := by decide +kernel
theorem d_Rd_readNumber_64 : decode b_Rd_readNumber 64 = .ok (.invokevirtual 98, 3) := by decide +kernel
theorem d_Rd_readNumber_67 : decode b_Rd_readNumber 67 = .ok (.aload_n 0, 1) := by decide +kernel
theorem d_Rd_readNumber_68 : decode b_Rd_readNumber 68 = .ok (.invokevirtual 38, 3) := by decide +kernel
theorem d_Rd_readNumber_71 : decode b_Rd_readNumber 71 = .ok (.iconst 1, 1) := by decide +kernel
theorem d_Rd_readNumber_72 : decode b_Rd_readNumber 72 = .ok (.ireturn, 1) := by decide +kernel
theorem d_Rd_readRest_0 : decode b_Rd_readRest 0 = .ok (.iconst 1, 1) := by decide +kernel
theorem d_Rd_readRest_1 : decode b_Rd_readRest 1 = .ok (.istore_n 2, 1) := by decide +kernel
theorem d_Rd_readRest_2 : decode b_Rd_readRest 2 = .ok (.iload_n 1, 1) := by decide +kernel
theorem d_Rd_readRest_3 : decode b_Rd_readRest 3 = .ok (.tableswitch 216 1 18 #[85, 93, 180, 180, 117, 148, 216, 216, 180, 180, 180, 216, 216, 216, 216, 189, 189, 189], 85) := by decide +kernel
theorem d_Rd_readRest_88 : decode b_Rd_readRest 88 = .ok (.aload_n 0, 1) := by decide +kernel
theorem d_Rd_readRest_89 : decode b_Rd_readRest 89 = .ok (.invokevirtual 63, 3) := by decide +kernel
theorem d_Rd_readRest_92 : decode b_Rd_readRest 92 = .ok (.istore_n 2, 1) := by decide +kernel
theorem d_Rd_readRest_93 : decode b_Rd_readRest 93 = .ok (.goto 126, 3) := by decide +kernel
theorem d_Rd_readRest_96 : decode b_Rd_readRest 96 = .ok (.aload_n 0, 1) := by decide +kernel
theorem d_Rd_readRest_97 : decode b_Rd_readRest 97 = .ok (.iconst 0, 1) := by decide +kernel
theorem d_Rd_readRest_98 : decode b_Rd_readRest 98 = .ok (.invokevirtual 66, 3) := by decide +kernel
theorem d_Rd_readRest_101 : decode b_Rd_readRest 101 = .ok (.ifCond .eq 14, 3) := by decide +kernel
theorem d_Rd_readRest_104 : decode b_Rd_readRest 104 = .ok (.aload_n 0, 1) := by decide +kernel
theorem d_Rd_readRest_105 : decode b_Rd_readRest 105 = .ok (.invokevirtual 70, 3) := by decide +kernel
theorem d_Rd_readRest_108 : decode b_Rd_readRest 108 = .ok (.ifCond .eq 7, 3) := by decide +kernel
theorem d_Rd_readRest_111 : decode b_Rd_readRest 111 = .ok (.iconst 1, 1) := by decide +kernel
theorem d_Rd_readRest_112 : decode b_Rd_readRest 112 = .ok (.goto 4, 3) := by decide +kernel
theorem d_Rd_readRest_115 : decode b_Rd_readRest 115 = .ok (.iconst 0, 1) := by decide +kernel
theorem d_Rd_readRest_116 : decode b_Rd_readRest 116 = .ok (.istore_n 2, 1) := by decide +kernel
theorem d_Rd_readRest_117 : decode b_Rd_readRest 117 = .ok (.goto 102, 3) := by decide +kernel
theorem d_Rd_readRest_120 : decode b_Rd_readRest 120 = .ok (.aload_n 0, 1) := by decide +kernel
theorem d_Rd_readRest_121 : decode b_Rd_readRest 121 = .ok (.iconst 0, 1) := by decide +kernel
theorem d_Rd_readRest_122 : decode b_Rd_readRest 122 = .ok (.invokevirtual 66, 3) := by decide +kernel
theorem d_Rd_readRest_125 : decode b_Rd_readRest 125 = .ok (.ifCond .eq 21, 3) := by decide +kernel
theorem d_Rd_readRest_128 : decode b_Rd_readRest 128 = .ok (.aload_n 0, 1) := by decide +kernel
theorem d_Rd_readRest_129 : decode b_Rd_readRest 129 = .ok (.invokevirtual 73, 3) := by decide +kernel
theorem d_Rd_readRest_132 : decode b_Rd_readRest 132 = .ok (.ifCond .eq 14, 3) := by decide +kernel
theorem d_Rd_readRest_135 : decode b_Rd_readRest 135 = .ok (.aload_n 0, 1) := by decide +kernel
theorem d_Rd_readRest_136 : decode b_Rd_readRest 136 = .ok (.invokevirtual 76, 3) := by decide +kernel
theorem d_Rd_readRest_139 : decode b_Rd_readRest 139 = .ok (.ifCond .eq 7, 3) := by decide +kernel
theorem d_Rd_readRest_142 : decode b_Rd_readRest 142 = .ok (.iconst 1, 1) := by decide +kernel
theorem d_Rd_readRest_143 : decode b_Rd_readRest 143 = .ok (.goto 4, 3) := by decide +kernel
theorem d_Rd_readRest_146 : decode b_Rd_readRest 146 = .ok (.iconst 0, 1) := by decide +kernel
theorem d_Rd_readRest_147 : decode b_Rd_readRest 147 = .ok (.istore_n 2, 1) := by decide +kernel
theorem d_Rd_readRest_148 : decode b_Rd_readRest 148 = .ok (.goto 71, 3) := by decide +kernel
theorem d_Rd_readRest_151 : decode b_Rd_readRest 151 = .ok (.aload_n 0, 1) := by decide +kernel
theorem d_Rd_readRest_152 : decode b_Rd_readRest 152 = .ok (.iconst 1, 1) := by decide +kernel
theorem d_Rd_readRest_153 : decode b_Rd_readRest 153 = .ok (.invokevirtual 66, 3) := by decide +kernel
theorem d_Rd_readRest_156 : decode b_Rd_readRest 156 = .ok (.ifCond .eq 22, 3) := by decide +kernel
theorem d_Rd_readRest_159 : decode b_Rd_readRest 159 = .ok (.aload_n 0, 1) := by decide +kernel
theorem d_Rd_readRest_160 : decode b_Rd_readRest 160 = .ok (.invokevirtual 76, 3) := by decide +kernel
theorem d_Rd_readRest_163 : decode b_Rd_readRest 163 = .ok (.ifCond .eq 15, 3) := by decide +kernel
theorem d_Rd_readRest_166 : decode b_Rd_readRest 166 = .ok (.aload_n 0, 1) := by decide +kernel
theorem d_Rd_readRest_167 : decode b_Rd_readRest 167 = .ok (.iconst 1, 1) := by decide +kernel
theorem d_Rd_readRest_168 : decode b_Rd_readRest 168 = .ok (.invokevirtual 66, 3) := by decide +kernel
theorem d_Rd_readRest_171 : decode b_Rd_readRest 171 = .ok (.ifCond .eq 7, 3) := by decide +kernel
theorem d_Rd_readRest_174 : decode b_Rd_readRest 174 = .ok (.iconst 1, 1) := by decide +kernel
theorem d_Rd_readRest_175 : decode b_Rd_readRest 175 = .ok (.goto 4, 3) := by decide +kernel
theorem d_Rd_readRest_178 : decode b_Rd_readRest 178 = .ok (.iconst 0, 1) := by decide +kernel
theorem d_Rd_readRest_179 : decode b_Rd_readRest 179 = .ok (.istore_n 2, 1) := by decide +kernel
theorem d_Rd_readRest_180 : decode b_Rd_readRest 180 = .ok (.goto 39, 3) := by decide +kernel
theorem d_Rd_readRest_183 : decode b_Rd_readRest 183 = .ok (.aload_n 0, 1) := by decide +kernel
theorem d_Rd_readRest_184 : decode b_Rd_readRest 184 = .ok (.iconst 0, 1) := by decide +kernel
theorem d_Rd_readRest_185 : decode b_Rd_readRest 185 = .ok (.invokevirtual 66, 3) := by decide +kernel
theorem d_Rd_readRest_188 : decode b_Rd_readRest 188 = .ok (.istore_n 2, 1) := by decide +kernel
theorem d_Rd_readRest_189 : decode b_Rd_readRest 189 = .ok (.goto 30, 3) := by decide +kernel
theorem d_Rd_readRest_192 : decode b_Rd_readRest 192 = .ok (.aload_n 0, 1) := by decide +kernel
theorem d_Rd_readRest_193 : decode b_Rd_readRest 193 = .ok (.getfield 41, 3) := by decide +kernel
theorem d_Rd_readRest_196 : decode b_Rd_readRest 196 = .ok (.ifCond .eq 14, 3) := by decide +kernel
theorem d_Rd_readRest_199 : decode b_Rd_readRest 199 = .ok (.aload_n 0, 1) := by decide +kernel
theorem d_Rd_readRest_200 : decode b_Rd_readRest 200 = .ok (.iload_n 1, 1) := by decide +kernel
theorem d_Rd_readRest_201 : decode b_Rd_readRest 201 = .ok (.invokestatic 79, 3) := by decide +kernel
theorem d_Rd_readRest_204 : decode b_Rd_readRest 204 = .ok (.invokevirtual 83, 3) := by decide +kernel
theorem d_Rd_readRest_207 : decode b_Rd_readRest 207 = .ok (.ifCond .eq 7, 3) := by decide +kernel
theorem d_Rd_readRest_210 : decode b_Rd_readRest 210 = .ok (.iconst 1, 1) := by decide +kernel
theorem d_Rd_readRest_211 : decode b_Rd_readRest 211 = .ok (.goto 4, 3) := by decide +kernel
theorem d_Rd_readRest_214 : decode b_Rd_readRest 214 = .ok (.iconst 0, 1) := by decide +kernel
theorem d_Rd_readRest_215 : decode b_Rd_readRest 215 = .ok (.istore_n 2, 1) := by decide +kernel
theorem d_Rd_readRest_216 : decode b_Rd_readRest 216 = .ok (.goto 3, 3) := by decide +kernel
theorem d_Rd_readRest_219 : decode b_Rd_readRest 219 = .ok (.iload_n 2, 1) := by decide +kernel
theorem d_Rd_readRest_220 : decode b_Rd_readRest 220 = .ok (.ifCond .eq 16, 3) := by decide +kernel
theorem d_Rd_readRest_223 : decode b_Rd_readRest 223 = .ok (.aload_n 0, 1) := by decide +kernel
theorem d_Rd_readRest_224 : decode b_Rd_readRest 224 = .ok (.getfield 41, 3) := by decide +kernel
theorem d_Rd_readRest_227 : decode b_Rd_readRest 227 = .ok (.ifCond .eq 9, 3) := by decide +kernel
theorem d_Rd_readRest_230 : decode b_Rd_readRest 230 = .ok (.aload_n 0, 1) := by decide +kernel
theorem d_Rd_readRest_231 : decode b_Rd_readRest 231 = .ok (.iconst 4, 1) := by decide +kernel
theorem d_Rd_readRest_232 : decode b_Rd_readRest 232 = .ok (.invokevirtual 51, 3) := by decide +kernel
theorem d_Rd_readRest_235 : decode b_Rd_readRest 235 = .ok (.pop, 1) := by decide +kernel
theorem d_Rd_readRest_236 : decode b_Rd_readRest 236 = .ok (.aload_n 0, 1) := by decide +kernel
theorem d_Rd_readRest_237 : decode b_Rd_readRest 237 = .ok (.aload_n 0, 1) := by decide +kernel
theorem d_Rd_readRest_238 : decode b_Rd_readRest 238 = .ok (.getfield 44, 3) := by decide +kernel
theorem d_Rd_readRest_241 : decode b_Rd_readRest 241 = .ok (.iconst 1, 1) := by decide +kernel
theorem d_Rd_readRest_242 : decode b_Rd_readRest 242 = .ok (.iadd, 1) := by decide +kernel
theorem d_Rd_readRest_243 : decode b_Rd_readRest 243 = .ok (.putfield 29, 3) := by decide +kernel
theorem d_Rd_readRest_246 : decode b_Rd_readRest 246 = .ok (.return_, 1) := by decide +kernel
theorem d_Rd_readSide_0 : decode b_Rd_readSide 0 = .ok (.aload_n 0, 1) := by decide +kernel
theorem d_Rd_readSide_1 : decode b_Rd_readSide 1 = .ok (.ldc 125, 2) := by decide +kernel
theorem d_Rd_readSide_3 : decode b_Rd_readSide 3 = .ok (.invokevirtual 95, 3) := by decide +kernel
theorem d_Rd_readSide_6 : decode b_Rd_readSide 6 = .ok (.istore_n 1, 1) := by decide +kernel
theorem d_Rd_readSide_7 : decode b_Rd_readSide 7 = .ok (.iload_n 1, 1) := by decide +kernel
theorem d_Rd_readSide_8 : decode b_Rd_readSide 8 = .ok (.ifCond .ne 18, 3) := by decide +kernel
theorem d_Rd_readSide_11 : decode b_Rd_readSide 11 = .ok (.aload_n 0, 1) := by decide +kernel
theorem d_Rd_readSide_12 : decode b_Rd_readSide 12 = .ok (.ldc 127, 2) := by decide +kernel
theorem d_Rd_readSide_14 : decode b_Rd_readSide 14 = .ok (.invokevirtual 95, 3) := by decide +kernel
theorem d_Rd_readSide_17 : decode b_Rd_readSide 17 = .ok (.ifCond .ne 9, 3) := by decide +kernel
theorem d_Rd_readSide_20 : decode b_Rd_readSide 20 = .ok (.aload_n 0, 1) := by decide +kernel
theorem d_Rd_readSide_21 : decode b_Rd_readSide 21 = .ok (.iconst 4, 1) := by decide +kernel
theorem d_Rd_readSide_22 : decode b_Rd_readSide 22 = .ok (.invokevirtual 51, 3) := by decide +kernel
theorem d_Rd_readSide_25 : decode b_Rd_readSide 25 = .ok (.ireturn, 1) := by decide +kernel
theorem d_Rd_readSide_26 : decode b_Rd_readSide 26 = .ok (.aload_n 0, 1) := by decide +kernel
theorem d_Rd_readSide_27 : decode b_Rd_readSide 27 = .ok (.getfield 18, 3) := by decide +kernel
theorem d_Rd_readSide_30 : decode b_Rd_readSide 30 = .ok (.iload_n 1, 1) := by decide +kernel
theorem d_Rd_readSide_31 : decode b_Rd_readSide 31 = .ok (.ifCond .eq 7, 3) := by decide +kernel
theorem d_Rd_readSide_34 : decode b_Rd_readSide 34 = .ok (.lconst 1, 1) := by decide +kernel
theorem d_Rd_readSide_35 : decode b_Rd_readSide 35 = .ok (.goto 4, 3) := by decide +kernel
theorem d_Rd_readSide_38 : decode b_Rd_readSide 38 = .ok (.lconst 0, 1) := by decide +kernel
theorem d_Rd_readSide_39 : decode b_Rd_readSide 39 = .ok (.invokevirtual 98, 3) := by decide +kernel
theorem d_Rd_readSide_42 : decode b_Rd_readSide 42 = .ok (.aload_n 0, 1) := by decide +kernel
theorem d_Rd_readSide_43 : decode b_Rd_readSide 43 = .ok (.invokevirtual 38, 3) := by decide +kernel
theorem d_Rd_readSide_46 : decode b_Rd_readSide 46 = .ok (.iconst 1, 1) := by decide +kernel
theorem d_Rd_readSide_47 : decode b_Rd_readSide 47 = .ok (.ireturn, 1) := by decide +kernel
theorem d_Rd_readSign_0 : decode b_Rd_readSign 0 = .ok (.aload_n 0, 1) := by decide +kernel
theorem d_Rd_readSign_1 : decode b_Rd_readSign 1 = .ok (.invokevirtual 87, 3) := by decide +kernel
theorem d_Rd_readSign_4 : decode b_Rd_readSign 4 = .ok (.ifCond .ne 9, 3) := by decide +kernel
theorem d_Rd_readSign_7 : decode b_Rd_readSign 7 = .ok (.aload_n 0, 1) := by decide +kernel
theorem d_Rd_readSign_8 : decode b_Rd_readSign 8 = .ok (.iconst 4, 1) := by decide +kernel
theorem d_Rd_readSign_9 : decode b_Rd_readSign 9 = .ok (.invokevirtual 51, 3) := by decide +kernel
theorem d_Rd_readSign_12 : decode b_Rd_readSign 12 = .ok (.ireturn, 1) := by decide +kernel
theorem d_Rd_readSign_13 : decode b_Rd_readSign 13 = .ok (.aload_n 0, 1) := by decide +kernel
theorem d_Rd_readSign_14 : decode b_Rd_readSign 14 = .ok (.getfield 18, 3) := by decide +kernel
theorem d_Rd_readSign_17 : decode b_Rd_readSign 17 = .ok (.aload_n 0, 1) := by decide +kernel
theorem d_Rd_readSign_18 : decode b_Rd_readSign 18 = .ok (.bipush 45, 2) := by decide +kernel
theorem d_Rd_readSign_20 : decode b_Rd_readSign 20 = .ok (.invokevirtual 106, 3) := by decide +kernel
theorem d_Rd_readSign_23 : decode b_Rd_readSign 23 = .ok (.ifCond .eq 9, 3) := by decide +kernel
theorem d_Rd_readSign_26 : decode b_Rd_readSign 26 = .ok (.ldc2_w 123, 3) := by decide +kernel
theorem d_Rd_readSign_29 : decode b_Rd_readSign 29 = .ok (.goto 4, 3) := by decide +kernel
theorem d_Rd_readSign_32 : decode b_Rd_readSign 32 = .ok (.lconst 1, 1) := by decide +kernel
theorem d_Rd_readSign_33 : decode b_Rd_readSign 33 = .ok (.invokevirtual 98, 3) := by decide +kernel
theorem d_Rd_readSign_36 : decode b_Rd_readSign 36 = .ok (.aload_n 0, 1) := by decide +kernel
theorem d_Rd_readSign_37 : decode b_Rd_readSign 37 = .ok (.invokevirtual 38, 3) := by decide +kernel
theorem d_Rd_readSign_40 : decode b_Rd_readSign 40 = .ok (.iconst 1, 1) := by decide +kernel
theorem d_Rd_readSign_41 : decode b_Rd_readSign 41 = .ok (.ireturn, 1) := by decide +kernel
theorem d_Rd_readSum_0 : decode b_Rd_readSum 0 = .ok (.aload_n 0, 1) := by decide +kernel
theorem d_Rd_readSum_1 : decode b_Rd_readSum 1 = .ok (.bipush 61, 2) := by decide +kernel
theorem d_Rd_readSum_3 : decode b_Rd_readSum 3 = .ok (.invokevirtual 102, 3) := by decide +kernel
theorem d_Rd_readSum_6 : decode b_Rd_readSum 6 = .ok (.ifCond .ne 5, 3) := by decide +kernel
theorem d_Rd_readSum_9 : decode b_Rd_readSum 9 = .ok (.iconst 0, 1) := by decide +kernel
theorem d_Rd_readSum_10 : decode b_Rd_readSum 10 = .ok (.ireturn, 1) := by decide +kernel
theorem d_Rd_readSum_11 : decode b_Rd_readSum 11 = .ok (.iconst 1, 1) := by decide +kernel
theorem d_Rd_readSum_12 : decode b_Rd_readSum 12 = .ok (.istore_n 2, 1) := by decide +kernel
theorem d_Rd_readSum_13 : decode b_Rd_readSum 13 = .ok (.aload_n 0, 1) := by decide +kernel
theorem d_Rd_readSum_14 : decode b_Rd_readSum 14 = .ok (.bipush 45, 2) := by decide +kernel
theorem d_Rd_readSum_16 : decode b_Rd_readSum 16 = .ok (.invokevirtual 106, 3) := by decide +kernel
theorem d_Rd_readSum_19 : decode b_Rd_readSum 19 = .ok (.ifCond .eq 9, 3) := by decide +kernel
theorem d_Rd_readSum_22 : decode b_Rd_readSum 22 = .ok (.iconst (-1), 1) := by decide +kernel
theorem d_Rd_readSum_23 : decode b_Rd_readSum 23 = .ok (.istore_n 2, 1) := by decide +kernel
theorem d_Rd_readSum_24 : decode b_Rd_readSum 24 = .ok (.aload_n 0, 1) := by decide +kernel
theorem d_Rd_readSum_25 : decode b_Rd_readSum 25 = .ok (.invokevirtual 38, 3) := by decide +kernel
theorem d_Rd_readSum_28 : decode b_Rd_readSum 28 = .ok (.aload_n 0, 1) := by decide +kernel
theorem d_Rd_readSum_29 : decode b_Rd_readSum 29 = .ok (.iload_n 2, 1) := by decide +kernel
theorem d_Rd_readSum_30 : decode b_Rd_readSum 30 = .ok (.aload_n 1, 1) := by decide +kernel
theorem d_Rd_readSum_31 : decode b_Rd_readSum 31 = .ok (.invokevirtual 109, 3) := by decide +kernel
theorem d_Rd_readSum_34 : decode b_Rd_readSum 34 = .ok (.ifCond .ne 5, 3) := by decide +kernel
theorem d_Rd_readSum_37 : decode b_Rd_readSum 37 = .ok (.iconst 0, 1) := by decide +kernel
theorem d_Rd_readSum_38 : decode b_Rd_readSum 38 = .ok (.ireturn, 1) := by decide +kernel
theorem d_Rd_readSum_39 : decode b_Rd_readSum 39 = .ok (.iconst 1, 1) := by decide +kernel
theorem d_Rd_readSum_40 : decode b_Rd_readSum 40 = .ok (.istore_n 3, 1) := by decide +kernel
theorem d_Rd_readSum_41 : decode b_Rd_readSum 41 = .ok (.iload_n 3, 1) := by decide +kernel
theorem d_Rd_readSum_42 : decode b_Rd_readSum 42 = .ok (.bipush 64, 2) := by decide +kernel
theorem d_Rd_readSum_44 : decode b_Rd_readSum 44 = .ok (.if_icmp .gt 58, 3) := by decide +kernel
theorem d_Rd_readSum_47 : decode b_Rd_readSum 47 = .ok (.aload_n 0, 1) := by decide +kernel
theorem d_Rd_readSum_48 : decode b_Rd_readSum 48 = .ok (.invokevirtual 87, 3) := by decide +kernel
theorem d_Rd_readSum_51 : decode b_Rd_readSum 51 = .ok (.ifCond .eq 51, 3) := by decide +kernel
theorem d_Rd_readSum_54 : decode b_Rd_readSum 54 = .ok (.iload_n 3, 1) := by decide +kernel
theorem d_Rd_readSum_55 : decode b_Rd_readSum 55 = .ok (.bipush 64, 2) := by decide +kernel
theorem d_Rd_readSum_57 : decode b_Rd_readSum 57 = .ok (.if_icmp .ne 9, 3) := by decide +kernel
theorem d_Rd_readSum_60 : decode b_Rd_readSum 60 = .ok (.aload_n 0, 1) := by decide +kernel
theorem d_Rd_readSum_61 : decode b_Rd_readSum 61 = .ok (.iconst 5, 1) := by decide +kernel
theorem d_Rd_readSum_62 : decode b_Rd_readSum 62 = .ok (.invokevirtual 51, 3) := by decide +kernel
theorem d_Rd_readSum_65 : decode b_Rd_readSum 65 = .ok (.ireturn, 1) := by decide +kernel
theorem d_Rd_readSum_66 : decode b_Rd_readSum 66 = .ok (.aload_n 0, 1) := by decide +kernel
theorem d_Rd_readSum_67 : decode b_Rd_readSum 67 = .ok (.bipush 45, 2) := by decide +kernel
theorem d_Rd_readSum_69 : decode b_Rd_readSum 69 = .ok (.invokevirtual 106, 3) := by decide +kernel
theorem d_Rd_readSum_72 : decode b_Rd_readSum 72 = .ok (.ifCond .eq 7, 3) := by decide +kernel
