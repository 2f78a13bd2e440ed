theorem d_Md_look_243 : decode b_Md_look 243 = .ok (.aload_n 0, 1) := by decide +kernel
theorem d_Md_look_244 : decode b_Md_look 244 = .ok (.getfield 132, 3) := by decide +kernel
theorem d_Md_look_247 : decode b_Md_look 247 = .ok (.baload, 1) := by decide +kernel
theorem d_Md_look_248 : decode b_Md_look 248 = .ok (.invokestatic 149, 3) := by decide +kernel
theorem d_Md_look_251 : decode b_Md_look 251 = .ok (.ifCond .eq 16, 3) := by decide +kernel
theorem d_Md_look_197 : decode b_Md_look 197 = .ok (.aload_n 0, 1) := by decide +kernel
theorem d_Md_look_198 : decode b_Md_look 198 = .ok (.getfield 132, 3) := by decide +kernel
theorem d_Md_look_201 : decode b_Md_look 201 = .ok (.aload_n 0, 1) := by decide +kernel
theorem d_Md_look_202 : decode b_Md_look 202 = .ok (.getfield 135, 3) := by decide +kernel
theorem d_Md_look_205 : decode b_Md_look 205 = .ok (.if_icmp .ge 62, 3) := by decide +kernel
theorem d_Md_look_208 : decode b_Md_look 208 = .ok (.aload_n 0, 1) := by decide +kernel
theorem d_Md_look_209 : decode b_Md_look 209 = .ok (.getfield 129, 3) := by decide +kernel
theorem d_Md_look_212 : decode b_Md_look 212 = .ok (.iconst 1, 1) := by decide +kernel
theorem d_Md_look_213 : decode b_Md_look 213 = .ok (.if_icmp .ne 18, 3) := by decide +kernel
theorem d_Md_look_216 : decode b_Md_look 216 = .ok (.aload_n 0, 1) := by decide +kernel
theorem d_Md_look_217 : decode b_Md_look 217 = .ok (.getfield 16, 3) := by decide +kernel
theorem d_Md_look_220 : decode b_Md_look 220 = .ok (.aload_n 0, 1) := by decide +kernel
theorem d_Md_look_221 : decode b_Md_look 221 = .ok (.getfield 132, 3) := by decide +kernel
theorem d_Md_look_224 : decode b_Md_look 224 = .ok (.baload, 1) := by decide +kernel
theorem d_Md_look_225 : decode b_Md_look 225 = .ok (.invokestatic 145, 3) := by decide +kernel
theorem d_Md_look_228 : decode b_Md_look 228 = .ok (.ifCond .ne 26, 3) := by decide +kernel
theorem d_Md_look_184 : decode b_Md_look 184 = .ok (.putfield 129, 3) := by decide +kernel
theorem d_Md_look_187 : decode b_Md_look 187 = .ok (.aload_n 0, 1) := by decide +kernel
theorem d_Md_look_188 : decode b_Md_look 188 = .ok (.dup, 1) := by decide +kernel
theorem d_Md_look_189 : decode b_Md_look 189 = .ok (.getfield 132, 3) := by decide +kernel
theorem d_Md_look_192 : decode b_Md_look 192 = .ok (.iconst 1, 1) := by decide +kernel
theorem d_Md_look_193 : decode b_Md_look 193 = .ok (.iadd, 1) := by decide +kernel
theorem d_Md_look_194 : decode b_Md_look 194 = .ok (.putfield 132, 3) := by decide +kernel
theorem d_Md_look_144 : decode b_Md_look 144 = .ok (.aload_n 0, 1) := by decide +kernel
theorem d_Md_look_145 : decode b_Md_look 145 = .ok (.aload_n 0, 1) := by decide +kernel
theorem d_Md_look_146 : decode b_Md_look 146 = .ok (.getfield 16, 3) := by decide +kernel
theorem d_Md_look_149 : decode b_Md_look 149 = .ok (.aload_n 0, 1) := by decide +kernel
theorem d_Md_look_150 : decode b_Md_look 150 = .ok (.getfield 132, 3) := by decide +kernel
theorem d_Md_look_153 : decode b_Md_look 153 = .ok (.baload, 1) := by decide +kernel
theorem d_Md_look_154 : decode b_Md_look 154 = .ok (.invokestatic 145, 3) := by decide +kernel
theorem d_Md_look_157 : decode b_Md_look 157 = .ok (.ifCond .eq 7, 3) := by decide +kernel
theorem d_Md_look_164 : decode b_Md_look 164 = .ok (.aload_n 0, 1) := by decide +kernel
theorem d_Md_look_165 : decode b_Md_look 165 = .ok (.getfield 16, 3) := by decide +kernel
theorem d_Md_look_168 : decode b_Md_look 168 = .ok (.aload_n 0, 1) := by decide +kernel
theorem d_Md_look_169 : decode b_Md_look 169 = .ok (.getfield 132, 3) := by decide +kernel
theorem d_Md_look_172 : decode b_Md_look 172 = .ok (.baload, 1) := by decide +kernel
theorem d_Md_look_173 : decode b_Md_look 173 = .ok (.invokestatic 149, 3) := by decide +kernel
theorem d_Md_look_176 : decode b_Md_look 176 = .ok (.ifCond .eq 7, 3) := by decide +kernel
theorem d_Md_look_183 : decode b_Md_look 183 = .ok (.iconst 3, 1) := by decide +kernel
theorem d_Md_look_179 : decode b_Md_look 179 = .ok (.iconst 2, 1) := by decide +kernel
theorem d_Md_look_180 : decode b_Md_look 180 = .ok (.goto 4, 3) := by decide +kernel
theorem d_Md_look_160 : decode b_Md_look 160 = .ok (.iconst 1, 1) := by decide +kernel
theorem d_Md_look_161 : decode b_Md_look 161 = .ok (.goto 23, 3) := by decide +kernel
theorem d_Md_look_68 : decode b_Md_look 68 = .ok (.aload_n 0, 1) := by decide +kernel
theorem d_Md_look_69 : decode b_Md_look 69 = .ok (.iconst 1, 1) := by decide +kernel
theorem d_Md_look_70 : decode b_Md_look 70 = .ok (.aload_n 0, 1) := by decide +kernel
theorem d_Md_look_71 : decode b_Md_look 71 = .ok (.getfield 132, 3) := by decide +kernel
theorem d_Md_look_74 : decode b_Md_look 74 = .ok (.invokevirtual 138, 3) := by decide +kernel
theorem d_Md_look_77 : decode b_Md_look 77 = .ok (.return_, 1) := by decide +kernel
theorem d_Md_look_124 : decode b_Md_look 124 = .ok (.iadd, 1) := by decide +kernel
theorem d_Md_look_125 : decode b_Md_look 125 = .ok (.putfield 132, 3) := by decide +kernel
theorem d_Md_look_128 : decode b_Md_look 128 = .ok (.goto (-111), 3) := by decide +kernel
theorem d_Md_look_109 : decode b_Md_look 109 = .ok (.istore_n 2, 1) := by decide +kernel
theorem d_Md_look_110 : decode b_Md_look 110 = .ok (.aload_n 0, 1) := by decide +kernel
theorem d_Md_look_111 : decode b_Md_look 111 = .ok (.dup, 1) := by decide +kernel
theorem d_Md_look_112 : decode b_Md_look 112 = .ok (.getfield 132, 3) := by decide +kernel
theorem d_Md_look_115 : decode b_Md_look 115 = .ok (.iload_n 2, 1) := by decide +kernel
theorem d_Md_look_116 : decode b_Md_look 116 = .ok (.ifCond .eq 7, 3) := by decide +kernel
theorem d_Md_look_123 : decode b_Md_look 123 = .ok (.iconst 1, 1) := by decide +kernel
theorem d_Md_look_119 : decode b_Md_look 119 = .ok (.iconst 0, 1) := by decide +kernel
theorem d_Md_look_120 : decode b_Md_look 120 = .ok (.goto 4, 3) := by decide +kernel
theorem d_Md_look_108 : decode b_Md_look 108 = .ok (.iconst 0, 1) := by decide +kernel
theorem d_Md_look_93 : decode b_Md_look 93 = .ok (.istore_n 1, 1) := by decide +kernel
theorem d_Md_look_94 : decode b_Md_look 94 = .ok (.iload_n 1, 1) := by decide +kernel
theorem d_Md_look_95 : decode b_Md_look 95 = .ok (.ifCond .ne 13, 3) := by decide +kernel
theorem d_Md_look_98 : decode b_Md_look 98 = .ok (.iload_n 3, 1) := by decide +kernel
theorem d_Md_look_99 : decode b_Md_look 99 = .ok (.bipush 32, 2) := by decide +kernel
theorem d_Md_look_101 : decode b_Md_look 101 = .ok (.if_icmp .eq 7, 3) := by decide +kernel
theorem d_Md_look_104 : decode b_Md_look 104 = .ok (.iconst 1, 1) := by decide +kernel
theorem d_Md_look_105 : decode b_Md_look 105 = .ok (.goto 4, 3) := by decide +kernel
theorem d_Md_look_88 : decode b_Md_look 88 = .ok (.iconst 1, 1) := by decide +kernel
theorem d_Md_look_89 : decode b_Md_look 89 = .ok (.goto 4, 3) := by decide +kernel
theorem d_Md_look_28 : decode b_Md_look 28 = .ok (.aload_n 0, 1) := by decide +kernel
theorem d_Md_look_29 : decode b_Md_look 29 = .ok (.getfield 16, 3) := by decide +kernel
theorem d_Md_look_32 : decode b_Md_look 32 = .ok (.aload_n 0, 1) := by decide +kernel
theorem d_Md_look_33 : decode b_Md_look 33 = .ok (.getfield 132, 3) := by decide +kernel
theorem d_Md_look_36 : decode b_Md_look 36 = .ok (.baload, 1) := by decide +kernel
theorem d_Md_look_37 : decode b_Md_look 37 = .ok (.bipush 10, 2) := by decide +kernel
theorem d_Md_look_39 : decode b_Md_look 39 = .ok (.if_icmp .eq 92, 3) := by decide +kernel
theorem d_Md_look_42 : decode b_Md_look 42 = .ok (.iload_n 2, 1) := by decide +kernel
theorem d_Md_look_43 : decode b_Md_look 43 = .ok (.ifCond .ne 88, 3) := by decide +kernel
theorem d_Md_look_46 : decode b_Md_look 46 = .ok (.aload_n 0, 1) := by decide +kernel
theorem d_Md_look_47 : decode b_Md_look 47 = .ok (.getfield 16, 3) := by decide +kernel
theorem d_Md_look_50 : decode b_Md_look 50 = .ok (.aload_n 0, 1) := by decide +kernel
theorem d_Md_look_51 : decode b_Md_look 51 = .ok (.getfield 132, 3) := by decide +kernel
theorem d_Md_look_54 : decode b_Md_look 54 = .ok (.baload, 1) := by decide +kernel
theorem d_Md_look_55 : decode b_Md_look 55 = .ok (.istore_n 3, 1) := by decide +kernel
theorem d_Md_look_56 : decode b_Md_look 56 = .ok (.iload_n 3, 1) := by decide +kernel
theorem d_Md_look_57 : decode b_Md_look 57 = .ok (.bipush 32, 2) := by decide +kernel
theorem d_Md_look_59 : decode b_Md_look 59 = .ok (.if_icmp .lt 9, 3) := by decide +kernel
theorem d_Md_look_62 : decode b_Md_look 62 = .ok (.iload_n 3, 1) := by decide +kernel
theorem d_Md_look_63 : decode b_Md_look 63 = .ok (.bipush 126, 2) := by decide +kernel
theorem d_Md_look_65 : decode b_Md_look 65 = .ok (.if_icmp .le 13, 3) := by decide +kernel
theorem d_Md_look_78 : decode b_Md_look 78 = .ok (.iload_n 1, 1) := by decide +kernel
theorem d_Md_look_79 : decode b_Md_look 79 = .ok (.ifCond .ne 9, 3) := by decide +kernel
theorem d_Md_look_82 : decode b_Md_look 82 = .ok (.iload_n 3, 1) := by decide +kernel
theorem d_Md_look_83 : decode b_Md_look 83 = .ok (.bipush 35, 2) := by decide +kernel
theorem d_Md_look_85 : decode b_Md_look 85 = .ok (.if_icmp .ne 7, 3) := by decide +kernel
theorem d_Md_look_92 : decode b_Md_look 92 = .ok (.iconst 0, 1) := by decide +kernel
theorem d_Md_look_12 : decode b_Md_look 12 = .ok (.return_, 1) := by decide +kernel
theorem d_Md_isBadNumber_56 : decode b_Md_isBadNumber 56 = .ok (.iconst 1, 1) := by decide +kernel
theorem d_Md_isBadNumber_57 : decode b_Md_isBadNumber 57 = .ok (.goto 4, 3) := by decide +kernel
theorem d_Md_isBadNumber_61 : decode b_Md_isBadNumber 61 = .ok (.ireturn, 1) := by decide +kernel
theorem d_Md_isBadNumber_41 : decode b_Md_isBadNumber 41 = .ok (.iload_n 1, 1) := by decide +kernel
theorem d_Md_isBadNumber_42 : decode b_Md_isBadNumber 42 = .ok (.ifCond .ne 18, 3) := by decide +kernel
theorem d_Md_isBadNumber_60 : decode b_Md_isBadNumber 60 = .ok (.iconst 0, 1) := by decide +kernel
theorem d_Md_isBadNumber_45 : decode b_Md_isBadNumber 45 = .ok (.aload_n 0, 1) := by decide +kernel
theorem d_Md_isBadNumber_46 : decode b_Md_isBadNumber 46 = .ok (.invokevirtual 166, 3) := by decide +kernel
theorem d_Md_isBadNumber_49 : decode b_Md_isBadNumber 49 = .ok (.ldc2_w 170, 3) := by decide +kernel
theorem d_Md_isBadNumber_52 : decode b_Md_isBadNumber 52 = .ok (.lcmp, 1) := by decide +kernel
theorem d_Md_isBadNumber_53 : decode b_Md_isBadNumber 53 = .ok (.ifCond .le 7, 3) := by decide +kernel
theorem d_Md_isBadNumber_0 : decode b_Md_isBadNumber 0 = .ok (.aload_n 0, 1) := by decide +kernel
theorem d_Md_isBadNumber_1 : decode b_Md_isBadNumber 1 = .ok (.getfield 132, 3) := by decide +kernel
theorem d_Md_isBadNumber_4 : decode b_Md_isBadNumber 4 = .ok (.aload_n 0, 1) := by decide +kernel
theorem d_Md_isBadNumber_5 : decode b_Md_isBadNumber 5 = .ok (.getfield 142, 3) := by decide +kernel
theorem d_Md_isBadNumber_8 : decode b_Md_isBadNumber 8 = .ok (.isub, 1) := by decide +kernel
theorem d_Md_isBadNumber_9 : decode b_Md_isBadNumber 9 = .ok (.bipush 18, 2) := by decide +kernel
theorem d_Md_isBadNumber_11 : decode b_Md_isBadNumber 11 = .ok (.if_icmp .gt 45, 3) := by decide +kernel
theorem d_Md_isBadNumber_14 : decode b_Md_isBadNumber 14 = .ok (.aload_n 0, 1) := by decide +kernel
theorem d_Md_isBadNumber_15 : decode b_Md_isBadNumber 15 = .ok (.getfield 16, 3) := by decide +kernel
theorem d_Md_isBadNumber_18 : decode b_Md_isBadNumber 18 = .ok (.aload_n 0, 1) := by decide +kernel
theorem d_Md_isBadNumber_19 : decode b_Md_isBadNumber 19 = .ok (.getfield 142, 3) := by decide +kernel
theorem d_Md_isBadNumber_22 : decode b_Md_isBadNumber 22 = .ok (.baload, 1) := by decide +kernel
theorem d_Md_isBadNumber_23 : decode b_Md_isBadNumber 23 = .ok (.bipush 48, 2) := by decide +kernel
theorem d_Md_isBadNumber_25 : decode b_Md_isBadNumber 25 = .ok (.if_icmp .ne 16, 3) := by decide +kernel
theorem d_Md_isBadNumber_28 : decode b_Md_isBadNumber 28 = .ok (.aload_n 0, 1) := by decide +kernel
theorem d_Md_isBadNumber_29 : decode b_Md_isBadNumber 29 = .ok (.getfield 132, 3) := by decide +kernel
theorem d_Md_isBadNumber_32 : decode b_Md_isBadNumber 32 = .ok (.aload_n 0, 1) := by decide +kernel
theorem d_Md_isBadNumber_33 : decode b_Md_isBadNumber 33 = .ok (.getfield 142, 3) := by decide +kernel
theorem d_Md_isBadNumber_36 : decode b_Md_isBadNumber 36 = .ok (.isub, 1) := by decide +kernel
theorem d_Md_isBadNumber_37 : decode b_Md_isBadNumber 37 = .ok (.iconst 1, 1) := by decide +kernel
theorem d_Md_isBadNumber_38 : decode b_Md_isBadNumber 38 = .ok (.if_icmp .gt 18, 3) := by decide +kernel
theorem d_Md_isPlusOrMinus_18 : decode b_Md_isPlusOrMinus 18 = .ok (.iconst 1, 1) := by decide +kernel
theorem d_Md_isPlusOrMinus_19 : decode b_Md_isPlusOrMinus 19 = .ok (.goto 4, 3) := by decide +kernel
theorem d_Md_isPlusOrMinus_23 : decode b_Md_isPlusOrMinus 23 = .ok (.ireturn, 1) := by decide +kernel
theorem d_Md_isPlusOrMinus_0 : decode b_Md_isPlusOrMinus 0 = .ok (.aload_n 0, 1) := by decide +kernel
theorem d_Md_isPlusOrMinus_1 : decode b_Md_isPlusOrMinus 1 = .ok (.bipush 43, 2) := by decide +kernel
theorem d_Md_isPlusOrMinus_3 : decode b_Md_isPlusOrMinus 3 = .ok (.invokevirtual 176, 3) := by decide +kernel
theorem d_Md_isPlusOrMinus_6 : decode b_Md_isPlusOrMinus 6 = .ok (.ifCond .ne 12, 3) := by decide +kernel
theorem d_Md_isPlusOrMinus_9 : decode b_Md_isPlusOrMinus 9 = .ok (.aload_n 0, 1) := by decide +kernel
theorem d_Md_isPlusOrMinus_10 : decode b_Md_isPlusOrMinus 10 = .ok (.bipush 45, 2) := by decide +kernel
theorem d_Md_isPlusOrMinus_12 : decode b_Md_isPlusOrMinus 12 = .ok (.invokevirtual 176, 3) := by decide +kernel
theorem d_Md_isPlusOrMinus_15 : decode b_Md_isPlusOrMinus 15 = .ok (.ifCond .eq 7, 3) := by decide +kernel
theorem d_Md_isPlusOrMinus_22 : decode b_Md_isPlusOrMinus 22 = .ok (.iconst 0, 1) := by decide +kernel
theorem d_Md_wrongHere_22 : decode b_Md_wrongHere 22 = .ok (.aload_n 0, 1) := by decide +kernel
theorem d_Md_wrongHere_23 : decode b_Md_wrongHere 23 = .ok (.getfield 142, 3) := by decide +kernel
theorem d_Md_wrongHere_26 : decode b_Md_wrongHere 26 = .ok (.invokevirtual 138, 3) := by decide +kernel
theorem d_Md_wrongHere_29 : decode b_Md_wrongHere 29 = .ok (.return_, 1) := by decide +kernel
theorem d_Md_wrongHere_21 : decode b_Md_wrongHere 21 = .ok (.iconst 4, 1) := by decide +kernel
theorem d_Md_wrongHere_0 : decode b_Md_wrongHere 0 = .ok (.aload_n 0, 1) := by decide +kernel
theorem d_Md_wrongHere_1 : decode b_Md_wrongHere 1 = .ok (.aload_n 0, 1) := by decide +kernel
theorem d_Md_wrongHere_2 : decode b_Md_wrongHere 2 = .ok (.getfield 129, 3) := by decide +kernel
theorem d_Md_wrongHere_5 : decode b_Md_wrongHere 5 = .ok (.iconst 2, 1) := by decide +kernel
theorem d_Md_wrongHere_6 : decode b_Md_wrongHere 6 = .ok (.if_icmp .ne 15, 3) := by decide +kernel
theorem d_Md_wrongHere_9 : decode b_Md_wrongHere 9 = .ok (.aload_n 0, 1) := by decide +kernel
theorem d_Md_wrongHere_10 : decode b_Md_wrongHere 10 = .ok (.iconst 0, 1) := by decide +kernel
theorem d_Md_wrongHere_11 : decode b_Md_wrongHere 11 = .ok (.invokevirtual 172, 3) := by decide +kernel
theorem d_Md_wrongHere_14 : decode b_Md_wrongHere 14 = .ok (.ifCond .eq 7, 3) := by decide +kernel
theorem d_Md_wrongHere_17 : decode b_Md_wrongHere 17 = .ok (.iconst 2, 1) := by decide +kernel
theorem d_Md_wrongHere_18 : decode b_Md_wrongHere 18 = .ok (.goto 4, 3) := by decide +kernel
theorem d_Md_need_0 : decode b_Md_need 0 = .ok (.aload_n 0, 1) := by decide +kernel
theorem d_Md_need_1 : decode b_Md_need 1 = .ok (.iload_n 1, 1) := by decide +kernel
theorem d_Md_need_2 : decode b_Md_need 2 = .ok (.invokevirtual 176, 3) := by decide +kernel
theorem d_Md_need_5 : decode b_Md_need 5 = .ok (.ifCond .eq 10, 3) := by decide +kernel
theorem d_Md_need_15 : decode b_Md_need 15 = .ok (.aload_n 0, 1) := by decide +kernel
theorem d_Md_need_16 : decode b_Md_need 16 = .ok (.invokevirtual 182, 3) := by decide +kernel
theorem d_Md_need_19 : decode b_Md_need 19 = .ok (.return_, 1) := by decide +kernel
theorem d_Md_need_8 : decode b_Md_need 8 = .ok (.aload_n 0, 1) := by decide +kernel
theorem d_Md_need_9 : decode b_Md_need 9 = .ok (.invokevirtual 179, 3) := by decide +kernel
theorem d_Md_need_12 : decode b_Md_need 12 = .ok (.goto 7, 3) := by decide +kernel
theorem d_Md_number_0 : decode b_Md_number 0 = .ok (.aload_n 0, 1) := by decide +kernel
theorem d_Md_number_1 : decode b_Md_number 1 = .ok (.getfield 129, 3) := by decide +kernel
theorem d_Md_number_4 : decode b_Md_number 4 = .ok (.iconst 2, 1) := by decide +kernel
theorem d_Md_number_5 : decode b_Md_number 5 = .ok (.if_icmp .eq 9, 3) := by decide +kernel
theorem d_Md_number_14 : decode b_Md_number 14 = .ok (.aload_n 0, 1) := by decide +kernel
theorem d_Md_number_15 : decode b_Md_number 15 = .ok (.iload_n 1, 1) := by decide +kernel
theorem d_Md_number_16 : decode b_Md_number 16 = .ok (.invokevirtual 172, 3) := by decide +kernel
theorem d_Md_number_19 : decode b_Md_number 19 = .ok (.ifCond .eq 14, 3) := by decide +kernel
theorem d_Md_number_33 : decode b_Md_number 33 = .ok (.aload_n 0, 1) := by decide +kernel
theorem d_Md_number_34 : decode b_Md_number 34 = .ok (.invokevirtual 166, 3) := by decide +kernel
theorem d_Md_number_37 : decode b_Md_number 37 = .ok (.lstore_n 2, 1) := by decide +kernel
theorem d_Md_number_38 : decode b_Md_number 38 = .ok (.aload_n 0, 1) := by decide +kernel
theorem d_Md_number_39 : decode b_Md_number 39 = .ok (.invokevirtual 179, 3) := by decide +kernel
theorem d_Md_number_42 : decode b_Md_number 42 = .ok (.lload_n 2, 1) := by decide +kernel
theorem d_Md_number_43 : decode b_Md_number 43 = .ok (.lreturn, 1) := by decide +kernel
theorem d_Md_number_22 : decode b_Md_number 22 = .ok (.aload_n 0, 1) := by decide +kernel
theorem d_Md_number_23 : decode b_Md_number 23 = .ok (.iconst 2, 1) := by decide +kernel
theorem d_Md_number_24 : decode b_Md_number 24 = .ok (.aload_n 0, 1) := by decide +kernel
theorem d_Md_number_25 : decode b_Md_number 25 = .ok (.getfield 142, 3) := by decide +kernel
theorem d_Md_number_28 : decode b_Md_number 28 = .ok (.invokevirtual 138, 3) := by decide +kernel
theorem d_Md_number_31 : decode b_Md_number 31 = .ok (.lconst 0, 1) := by decide +kernel
theorem d_Md_number_32 : decode b_Md_number 32 = .ok (.lreturn, 1) := by decide +kernel
theorem d_Md_number_8 : decode b_Md_number 8 = .ok (.aload_n 0, 1) := by decide +kernel
theorem d_Md_number_9 : decode b_Md_number 9 = .ok (.invokevirtual 182, 3) := by decide +kernel
theorem d_Md_number_12 : decode b_Md_number 12 = .ok (.lconst 0, 1) := by decide +kernel
