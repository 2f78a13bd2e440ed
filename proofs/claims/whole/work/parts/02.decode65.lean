theorem d_Md_uppers_34 : decode b_Md_uppers 34 = .ok (.iadd, 1) := by decide +kernel
theorem d_Md_uppers_35 : decode b_Md_uppers 35 = .ok (.ireturn, 1) := by decide +kernel
theorem d_Md_value_0 : decode b_Md_value 0 = .ok (.lconst 0, 1) := by decide +kernel
theorem d_Md_value_1 : decode b_Md_value 1 = .ok (.lstore_n 1, 1) := by decide +kernel
theorem d_Md_value_2 : decode b_Md_value 2 = .ok (.aload_n 0, 1) := by decide +kernel
theorem d_Md_value_3 : decode b_Md_value 3 = .ok (.getfield 142, 3) := by decide +kernel
theorem d_Md_value_6 : decode b_Md_value 6 = .ok (.istore_n 3, 1) := by decide +kernel
theorem d_Md_value_7 : decode b_Md_value 7 = .ok (.iload_n 3, 1) := by decide +kernel
theorem d_Md_value_8 : decode b_Md_value 8 = .ok (.aload_n 0, 1) := by decide +kernel
theorem d_Md_value_9 : decode b_Md_value 9 = .ok (.getfield 132, 3) := by decide +kernel
theorem d_Md_value_12 : decode b_Md_value 12 = .ok (.if_icmp .ge 27, 3) := by decide +kernel
theorem d_Md_value_15 : decode b_Md_value 15 = .ok (.ldc2_w 162, 3) := by decide +kernel
theorem d_Md_value_18 : decode b_Md_value 18 = .ok (.lload_n 1, 1) := by decide +kernel
theorem d_Md_value_19 : decode b_Md_value 19 = .ok (.lmul, 1) := by decide +kernel
theorem d_Md_value_20 : decode b_Md_value 20 = .ok (.aload_n 0, 1) := by decide +kernel
theorem d_Md_value_21 : decode b_Md_value 21 = .ok (.getfield 16, 3) := by decide +kernel
theorem d_Md_value_24 : decode b_Md_value 24 = .ok (.iload_n 3, 1) := by decide +kernel
theorem d_Md_value_25 : decode b_Md_value 25 = .ok (.baload, 1) := by decide +kernel
theorem d_Md_value_26 : decode b_Md_value 26 = .ok (.i2l, 1) := by decide +kernel
theorem d_Md_value_27 : decode b_Md_value 27 = .ok (.ladd, 1) := by decide +kernel
theorem d_Md_value_28 : decode b_Md_value 28 = .ok (.ldc2_w 164, 3) := by decide +kernel
theorem d_Md_value_31 : decode b_Md_value 31 = .ok (.lsub, 1) := by decide +kernel
theorem d_Md_value_32 : decode b_Md_value 32 = .ok (.lstore_n 1, 1) := by decide +kernel
theorem d_Md_value_33 : decode b_Md_value 33 = .ok (.iinc 3 1, 3) := by decide +kernel
theorem d_Md_value_36 : decode b_Md_value 36 = .ok (.goto (-29), 3) := by decide +kernel
theorem d_Md_value_39 : decode b_Md_value 39 = .ok (.lload_n 1, 1) := by decide +kernel
theorem d_Md_value_40 : decode b_Md_value 40 = .ok (.lreturn, 1) := by decide +kernel
theorem d_Md_what_0 : decode b_Md_what 0 = .ok (.aload_n 0, 1) := by decide +kernel
theorem d_Md_what_1 : decode b_Md_what 1 = .ok (.iload_n 1, 1) := by decide +kernel
theorem d_Md_what_2 : decode b_Md_what 2 = .ok (.invokevirtual 373, 3) := by decide +kernel
theorem d_Md_what_5 : decode b_Md_what 5 = .ok (.istore_n 2, 1) := by decide +kernel
theorem d_Md_what_6 : decode b_Md_what 6 = .ok (.iload_n 2, 1) := by decide +kernel
theorem d_Md_what_7 : decode b_Md_what 7 = .ok (.iconst 1, 1) := by decide +kernel
theorem d_Md_what_8 : decode b_Md_what 8 = .ok (.if_icmp .eq 8, 3) := by decide +kernel
theorem d_Md_what_11 : decode b_Md_what 11 = .ok (.iload_n 2, 1) := by decide +kernel
theorem d_Md_what_12 : decode b_Md_what 12 = .ok (.iconst 3, 1) := by decide +kernel
theorem d_Md_what_13 : decode b_Md_what 13 = .ok (.if_icmp .le 14, 3) := by decide +kernel
theorem d_Md_what_16 : decode b_Md_what 16 = .ok (.iload_n 2, 1) := by decide +kernel
theorem d_Md_what_17 : decode b_Md_what 17 = .ok (.iconst 1, 1) := by decide +kernel
theorem d_Md_what_18 : decode b_Md_what 18 = .ok (.if_icmp .ne 7, 3) := by decide +kernel
theorem d_Md_what_21 : decode b_Md_what 21 = .ok (.iconst 1, 1) := by decide +kernel
theorem d_Md_what_22 : decode b_Md_what 22 = .ok (.goto 4, 3) := by decide +kernel
theorem d_Md_what_25 : decode b_Md_what 25 = .ok (.iconst 0, 1) := by decide +kernel
theorem d_Md_what_26 : decode b_Md_what 26 = .ok (.ireturn, 1) := by decide +kernel
theorem d_Md_what_27 : decode b_Md_what 27 = .ok (.aload_n 0, 1) := by decide +kernel
theorem d_Md_what_28 : decode b_Md_what 28 = .ok (.getfield 87, 3) := by decide +kernel
theorem d_Md_what_31 : decode b_Md_what 31 = .ok (.iload_n 1, 1) := by decide +kernel
theorem d_Md_what_32 : decode b_Md_what 32 = .ok (.iaload, 1) := by decide +kernel
theorem d_Md_what_33 : decode b_Md_what 33 = .ok (.istore_n 3, 1) := by decide +kernel
theorem d_Md_what_34 : decode b_Md_what 34 = .ok (.aload_n 0, 1) := by decide +kernel
theorem d_Md_what_35 : decode b_Md_what 35 = .ok (.iload_n 3, 1) := by decide +kernel
theorem d_Md_what_36 : decode b_Md_what 36 = .ok (.invokevirtual 333, 3) := by decide +kernel
theorem d_Md_what_39 : decode b_Md_what 39 = .ok (.istore 4, 2) := by decide +kernel
theorem d_Md_what_41 : decode b_Md_what 41 = .ok (.aload_n 0, 1) := by decide +kernel
theorem d_Md_what_42 : decode b_Md_what 42 = .ok (.iload 4, 2) := by decide +kernel
theorem d_Md_what_44 : decode b_Md_what 44 = .ok (.invokevirtual 333, 3) := by decide +kernel
theorem d_Md_what_47 : decode b_Md_what 47 = .ok (.istore 5, 2) := by decide +kernel
theorem d_Md_what_49 : decode b_Md_what 49 = .ok (.aload_n 0, 1) := by decide +kernel
theorem d_Md_what_50 : decode b_Md_what 50 = .ok (.iload_n 3, 1) := by decide +kernel
theorem d_Md_what_51 : decode b_Md_what 51 = .ok (.invokevirtual 325, 3) := by decide +kernel
theorem d_Md_what_54 : decode b_Md_what 54 = .ok (.iconst 2, 1) := by decide +kernel
theorem d_Md_what_55 : decode b_Md_what 55 = .ok (.ishr, 1) := by decide +kernel
theorem d_Md_what_56 : decode b_Md_what 56 = .ok (.istore 6, 2) := by decide +kernel
theorem d_Md_what_58 : decode b_Md_what 58 = .ok (.aload_n 0, 1) := by decide +kernel
theorem d_Md_what_59 : decode b_Md_what 59 = .ok (.iload 4, 2) := by decide +kernel
theorem d_Md_what_61 : decode b_Md_what 61 = .ok (.invokevirtual 325, 3) := by decide +kernel
theorem d_Md_what_64 : decode b_Md_what 64 = .ok (.iconst 2, 1) := by decide +kernel
theorem d_Md_what_65 : decode b_Md_what 65 = .ok (.ishr, 1) := by decide +kernel
theorem d_Md_what_66 : decode b_Md_what 66 = .ok (.istore 7, 2) := by decide +kernel
theorem d_Md_what_68 : decode b_Md_what 68 = .ok (.aload_n 0, 1) := by decide +kernel
theorem d_Md_what_69 : decode b_Md_what 69 = .ok (.iload 5, 2) := by decide +kernel
theorem d_Md_what_71 : decode b_Md_what 71 = .ok (.invokevirtual 325, 3) := by decide +kernel
theorem d_Md_what_74 : decode b_Md_what 74 = .ok (.iconst 2, 1) := by decide +kernel
theorem d_Md_what_75 : decode b_Md_what 75 = .ok (.ishr, 1) := by decide +kernel
theorem d_Md_what_76 : decode b_Md_what 76 = .ok (.istore 8, 2) := by decide +kernel
theorem d_Md_what_78 : decode b_Md_what 78 = .ok (.aload_n 0, 1) := by decide +kernel
theorem d_Md_what_79 : decode b_Md_what 79 = .ok (.iload_n 3, 1) := by decide +kernel
theorem d_Md_what_80 : decode b_Md_what 80 = .ok (.iconst 1, 1) := by decide +kernel
theorem d_Md_what_81 : decode b_Md_what 81 = .ok (.ishr, 1) := by decide +kernel
theorem d_Md_what_82 : decode b_Md_what 82 = .ok (.invokevirtual 376, 3) := by decide +kernel
theorem d_Md_what_85 : decode b_Md_what 85 = .ok (.istore 9, 2) := by decide +kernel
theorem d_Md_what_87 : decode b_Md_what 87 = .ok (.aload_n 0, 1) := by decide +kernel
theorem d_Md_what_88 : decode b_Md_what 88 = .ok (.iload 4, 2) := by decide +kernel
theorem d_Md_what_90 : decode b_Md_what 90 = .ok (.iconst 1, 1) := by decide +kernel
theorem d_Md_what_91 : decode b_Md_what 91 = .ok (.ishr, 1) := by decide +kernel
theorem d_Md_what_92 : decode b_Md_what 92 = .ok (.invokevirtual 376, 3) := by decide +kernel
theorem d_Md_what_95 : decode b_Md_what 95 = .ok (.istore 10, 2) := by decide +kernel
theorem d_Md_what_97 : decode b_Md_what 97 = .ok (.aload_n 0, 1) := by decide +kernel
theorem d_Md_what_98 : decode b_Md_what 98 = .ok (.iload 5, 2) := by decide +kernel
theorem d_Md_what_100 : decode b_Md_what 100 = .ok (.iconst 1, 1) := by decide +kernel
theorem d_Md_what_101 : decode b_Md_what 101 = .ok (.ishr, 1) := by decide +kernel
theorem d_Md_what_102 : decode b_Md_what 102 = .ok (.invokevirtual 376, 3) := by decide +kernel
theorem d_Md_what_105 : decode b_Md_what 105 = .ok (.istore 11, 2) := by decide +kernel
theorem d_Md_what_107 : decode b_Md_what 107 = .ok (.iload_n 2, 1) := by decide +kernel
theorem d_Md_what_108 : decode b_Md_what 108 = .ok (.iconst 2, 1) := by decide +kernel
theorem d_Md_what_109 : decode b_Md_what 109 = .ok (.if_icmp .ne 38, 3) := by decide +kernel
theorem d_Md_what_112 : decode b_Md_what 112 = .ok (.iload 6, 2) := by decide +kernel
theorem d_Md_what_114 : decode b_Md_what 114 = .ok (.iload 7, 2) := by decide +kernel
theorem d_Md_what_116 : decode b_Md_what 116 = .ok (.if_icmp .eq 29, 3) := by decide +kernel
theorem d_Md_what_119 : decode b_Md_what 119 = .ok (.iload 9, 2) := by decide +kernel
theorem d_Md_what_121 : decode b_Md_what 121 = .ok (.iconst 2, 1) := by decide +kernel
theorem d_Md_what_122 : decode b_Md_what 122 = .ok (.if_icmp .ne 8, 3) := by decide +kernel
theorem d_Md_what_125 : decode b_Md_what 125 = .ok (.iload 10, 2) := by decide +kernel
theorem d_Md_what_127 : decode b_Md_what 127 = .ok (.ifCond .eq 14, 3) := by decide +kernel
theorem d_Md_what_130 : decode b_Md_what 130 = .ok (.iload 9, 2) := by decide +kernel
theorem d_Md_what_132 : decode b_Md_what 132 = .ok (.ifCond .ne 13, 3) := by decide +kernel
theorem d_Md_what_135 : decode b_Md_what 135 = .ok (.iload 10, 2) := by decide +kernel
theorem d_Md_what_137 : decode b_Md_what 137 = .ok (.iconst 2, 1) := by decide +kernel
theorem d_Md_what_138 : decode b_Md_what 138 = .ok (.if_icmp .ne 7, 3) := by decide +kernel
theorem d_Md_what_141 : decode b_Md_what 141 = .ok (.iconst 2, 1) := by decide +kernel
theorem d_Md_what_142 : decode b_Md_what 142 = .ok (.goto 4, 3) := by decide +kernel
theorem d_Md_what_145 : decode b_Md_what 145 = .ok (.iconst 0, 1) := by decide +kernel
theorem d_Md_what_146 : decode b_Md_what 146 = .ok (.ireturn, 1) := by decide +kernel
theorem d_Md_what_147 : decode b_Md_what 147 = .ok (.iload 9, 2) := by decide +kernel
theorem d_Md_what_149 : decode b_Md_what 149 = .ok (.iconst 2, 1) := by decide +kernel
theorem d_Md_what_150 : decode b_Md_what 150 = .ok (.if_icmp .eq 15, 3) := by decide +kernel
theorem d_Md_what_153 : decode b_Md_what 153 = .ok (.iload 10, 2) := by decide +kernel
theorem d_Md_what_155 : decode b_Md_what 155 = .ok (.iconst 2, 1) := by decide +kernel
theorem d_Md_what_156 : decode b_Md_what 156 = .ok (.if_icmp .eq 9, 3) := by decide +kernel
theorem d_Md_what_159 : decode b_Md_what 159 = .ok (.iload 11, 2) := by decide +kernel
theorem d_Md_what_161 : decode b_Md_what 161 = .ok (.iconst 2, 1) := by decide +kernel
theorem d_Md_what_162 : decode b_Md_what 162 = .ok (.if_icmp .ne 40, 3) := by decide +kernel
theorem d_Md_what_165 : decode b_Md_what 165 = .ok (.iload 9, 2) := by decide +kernel
theorem d_Md_what_167 : decode b_Md_what 167 = .ok (.ifCond .eq 13, 3) := by decide +kernel
theorem d_Md_what_170 : decode b_Md_what 170 = .ok (.iload 10, 2) := by decide +kernel
theorem d_Md_what_172 : decode b_Md_what 172 = .ok (.ifCond .eq 8, 3) := by decide +kernel
theorem d_Md_what_175 : decode b_Md_what 175 = .ok (.iload 11, 2) := by decide +kernel
theorem d_Md_what_177 : decode b_Md_what 177 = .ok (.ifCond .ne 25, 3) := by decide +kernel
theorem d_Md_what_180 : decode b_Md_what 180 = .ok (.iload 9, 2) := by decide +kernel
theorem d_Md_what_182 : decode b_Md_what 182 = .ok (.iconst 1, 1) := by decide +kernel
theorem d_Md_what_183 : decode b_Md_what 183 = .ok (.if_icmp .eq 15, 3) := by decide +kernel
theorem d_Md_what_186 : decode b_Md_what 186 = .ok (.iload 10, 2) := by decide +kernel
theorem d_Md_what_188 : decode b_Md_what 188 = .ok (.iconst 1, 1) := by decide +kernel
theorem d_Md_what_189 : decode b_Md_what 189 = .ok (.if_icmp .eq 9, 3) := by decide +kernel
theorem d_Md_what_192 : decode b_Md_what 192 = .ok (.iload 11, 2) := by decide +kernel
theorem d_Md_what_194 : decode b_Md_what 194 = .ok (.iconst 1, 1) := by decide +kernel
theorem d_Md_what_195 : decode b_Md_what 195 = .ok (.if_icmp .ne 7, 3) := by decide +kernel
theorem d_Md_what_198 : decode b_Md_what 198 = .ok (.iconst 1, 1) := by decide +kernel
theorem d_Md_what_199 : decode b_Md_what 199 = .ok (.goto 4, 3) := by decide +kernel
theorem d_Md_what_202 : decode b_Md_what 202 = .ok (.iconst 0, 1) := by decide +kernel
theorem d_Md_what_203 : decode b_Md_what 203 = .ok (.istore 12, 2) := by decide +kernel
theorem d_Md_what_205 : decode b_Md_what 205 = .ok (.iload 6, 2) := by decide +kernel
theorem d_Md_what_207 : decode b_Md_what 207 = .ok (.iload 7, 2) := by decide +kernel
theorem d_Md_what_209 : decode b_Md_what 209 = .ok (.if_icmp .eq 26, 3) := by decide +kernel
theorem d_Md_what_212 : decode b_Md_what 212 = .ok (.iload 7, 2) := by decide +kernel
theorem d_Md_what_214 : decode b_Md_what 214 = .ok (.iload 8, 2) := by decide +kernel
theorem d_Md_what_216 : decode b_Md_what 216 = .ok (.if_icmp .eq 19, 3) := by decide +kernel
theorem d_Md_what_219 : decode b_Md_what 219 = .ok (.iload 6, 2) := by decide +kernel
theorem d_Md_what_221 : decode b_Md_what 221 = .ok (.iload 8, 2) := by decide +kernel
theorem d_Md_what_223 : decode b_Md_what 223 = .ok (.if_icmp .eq 12, 3) := by decide +kernel
theorem d_Md_what_226 : decode b_Md_what 226 = .ok (.iload 12, 2) := by decide +kernel
theorem d_Md_what_228 : decode b_Md_what 228 = .ok (.ifCond .eq 7, 3) := by decide +kernel
theorem d_Md_what_231 : decode b_Md_what 231 = .ok (.iconst 3, 1) := by decide +kernel
theorem d_Md_what_232 : decode b_Md_what 232 = .ok (.goto 4, 3) := by decide +kernel
theorem d_Md_what_235 : decode b_Md_what 235 = .ok (.iconst 0, 1) := by decide +kernel
theorem d_Md_what_236 : decode b_Md_what 236 = .ok (.ireturn, 1) := by decide +kernel
theorem d_Md_wipe_0 : decode b_Md_wipe 0 = .ok (.aload_n 0, 1) := by decide +kernel
theorem d_Md_wipe_1 : decode b_Md_wipe 1 = .ok (.getfield 674, 3) := by decide +kernel
theorem d_Md_wipe_4 : decode b_Md_wipe 4 = .ok (.istore_n 2, 1) := by decide +kernel
theorem d_Md_wipe_5 : decode b_Md_wipe 5 = .ok (.aload_n 0, 1) := by decide +kernel
theorem d_Md_wipe_6 : decode b_Md_wipe 6 = .ok (.iconst 0, 1) := by decide +kernel
theorem d_Md_wipe_7 : decode b_Md_wipe 7 = .ok (.putfield 674, 3) := by decide +kernel
theorem d_Md_wipe_10 : decode b_Md_wipe 10 = .ok (.iload_n 1, 1) := by decide +kernel
theorem d_Md_wipe_11 : decode b_Md_wipe 11 = .ok (.ifCond .ne 5, 3) := by decide +kernel
theorem d_Md_wipe_14 : decode b_Md_wipe 14 = .ok (.iload_n 2, 1) := by decide +kernel
theorem d_Md_wipe_15 : decode b_Md_wipe 15 = .ok (.ireturn, 1) := by decide +kernel
theorem d_Md_wipe_16 : decode b_Md_wipe 16 = .ok (.iconst 0, 1) := by decide +kernel
theorem d_Md_wipe_17 : decode b_Md_wipe 17 = .ok (.istore_n 3, 1) := by decide +kernel
theorem d_Md_wipe_18 : decode b_Md_wipe 18 = .ok (.iload_n 3, 1) := by decide +kernel
theorem d_Md_wipe_19 : decode b_Md_wipe 19 = .ok (.iload_n 2, 1) := by decide +kernel
theorem d_Md_wipe_20 : decode b_Md_wipe 20 = .ok (.if_icmp .ge 21, 3) := by decide +kernel
theorem d_Md_wipe_23 : decode b_Md_wipe 23 = .ok (.aload_n 0, 1) := by decide +kernel
theorem d_Md_wipe_24 : decode b_Md_wipe 24 = .ok (.getfield 9, 3) := by decide +kernel
theorem d_Md_wipe_27 : decode b_Md_wipe 27 = .ok (.iload_n 3, 1) := by decide +kernel
theorem d_Md_wipe_28 : decode b_Md_wipe 28 = .ok (.aload_n 0, 1) := by decide +kernel
theorem d_Md_wipe_29 : decode b_Md_wipe 29 = .ok (.getfield 13, 3) := by decide +kernel
theorem d_Md_wipe_32 : decode b_Md_wipe 32 = .ok (.iload_n 3, 1) := by decide +kernel
theorem d_Md_wipe_33 : decode b_Md_wipe 33 = .ok (.baload, 1) := by decide +kernel
theorem d_Md_wipe_34 : decode b_Md_wipe 34 = .ok (.bastore, 1) := by decide +kernel
theorem d_Md_wipe_35 : decode b_Md_wipe 35 = .ok (.iinc 3 1, 3) := by decide +kernel
theorem d_Md_wipe_38 : decode b_Md_wipe 38 = .ok (.goto (-20), 3) := by decide +kernel
theorem d_Md_wipe_41 : decode b_Md_wipe 41 = .ok (.aload_n 0, 1) := by decide +kernel
theorem d_Md_wipe_42 : decode b_Md_wipe 42 = .ok (.iload_n 2, 1) := by decide +kernel
theorem d_Md_wipe_43 : decode b_Md_wipe 43 = .ok (.putfield 296, 3) := by decide +kernel
theorem d_Md_wipe_46 : decode b_Md_wipe 46 = .ok (.iload_n 2, 1) := by decide +kernel
theorem d_Md_wipe_47 : decode b_Md_wipe 47 = .ok (.ireturn, 1) := by decide +kernel
theorem d_Md_wrongHere_0 : decode b_Md_wrongHere 0 = .ok (.aload_n 0, 1) := by decide +kernel
theorem d_Md_wrongHere_1 : decode b_Md_wrongHere 1 = .ok (.aload_n 0, 1) := by decide +kernel
theorem d_Md_wrongHere_2 : decode b_Md_wrongHere 2 = .ok (.getfield 129, 3) := by decide +kernel
theorem d_Md_wrongHere_5 : decode b_Md_wrongHere 5 = .ok (.iconst 2, 1) := by decide +kernel
theorem d_Md_wrongHere_6 : decode b_Md_wrongHere 6 = .ok (.if_icmp .ne 15, 3) := by decide +kernel
theorem d_Md_wrongHere_9 : decode b_Md_wrongHere 9 = .ok (.aload_n 0, 1) := by decide +kernel
theorem d_Md_wrongHere_10 : decode b_Md_wrongHere 10 = .ok (.iconst 0, 1) := by decide +kernel
theorem d_Md_wrongHere_11 : decode b_Md_wrongHere 11 = .ok (.invokevirtual 172, 3) := by decide +kernel
theorem d_Md_wrongHere_14 : decode b_Md_wrongHere 14 = .ok (.ifCond .eq 7, 3) := by decide +kernel
theorem d_Md_wrongHere_17 : decode b_Md_wrongHere 17 = .ok (.iconst 2, 1) := by decide +kernel
theorem d_Md_wrongHere_18 : decode b_Md_wrongHere 18 = .ok (.goto 4, 3) := by decide +kernel
theorem d_Md_wrongHere_21 : decode b_Md_wrongHere 21 = .ok (.iconst 4, 1) := by decide +kernel
theorem d_Md_wrongHere_22 : decode b_Md_wrongHere 22 = .ok (.aload_n 0, 1) := by decide +kernel
theorem d_Md_wrongHere_23 : decode b_Md_wrongHere 23 = .ok (.getfield 142, 3) := by decide +kernel
