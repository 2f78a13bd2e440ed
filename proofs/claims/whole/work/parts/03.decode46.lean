theorem d_Md_norm_75 : decode b_Md_norm 75 = .ok (.iconst 1, 1) := by decide +kernel
theorem d_Md_norm_76 : decode b_Md_norm 76 = .ok (.isub, 1) := by decide +kernel
theorem d_Md_norm_77 : decode b_Md_norm 77 = .ok (.iload_n 3, 1) := by decide +kernel
theorem d_Md_norm_78 : decode b_Md_norm 78 = .ok (.invokestatic 423, 3) := by decide +kernel
theorem d_Md_norm_81 : decode b_Md_norm 81 = .ok (.ifCond .eq 6, 3) := by decide +kernel
theorem d_Md_norm_87 : decode b_Md_norm 87 = .ok (.aload_n 0, 1) := by decide +kernel
theorem d_Md_norm_88 : decode b_Md_norm 88 = .ok (.iload_n 2, 1) := by decide +kernel
theorem d_Md_norm_89 : decode b_Md_norm 89 = .ok (.iload_n 3, 1) := by decide +kernel
theorem d_Md_norm_90 : decode b_Md_norm 90 = .ok (.invokestatic 426, 3) := by decide +kernel
theorem d_Md_norm_93 : decode b_Md_norm 93 = .ok (.iconst 1, 1) := by decide +kernel
theorem d_Md_norm_94 : decode b_Md_norm 94 = .ok (.istore_n 1, 1) := by decide +kernel
theorem d_Md_norm_84 : decode b_Md_norm 84 = .ok (.goto 11, 3) := by decide +kernel
theorem d_Md_norm_54 : decode b_Md_norm 54 = .ok (.iconst 1, 1) := by decide +kernel
theorem d_Md_norm_55 : decode b_Md_norm 55 = .ok (.istore_n 3, 1) := by decide +kernel
theorem d_Md_norm_20 : decode b_Md_norm 20 = .ok (.aload_n 0, 1) := by decide +kernel
theorem d_Md_norm_21 : decode b_Md_norm 21 = .ok (.aload_n 0, 1) := by decide +kernel
theorem d_Md_norm_22 : decode b_Md_norm 22 = .ok (.getfield 400, 3) := by decide +kernel
theorem d_Md_norm_25 : decode b_Md_norm 25 = .ok (.iload_n 1, 1) := by decide +kernel
theorem d_Md_norm_26 : decode b_Md_norm 26 = .ok (.iaload, 1) := by decide +kernel
theorem d_Md_norm_27 : decode b_Md_norm 27 = .ok (.invokestatic 416, 3) := by decide +kernel
theorem d_Md_norm_30 : decode b_Md_norm 30 = .ok (.iinc 1 1, 3) := by decide +kernel
theorem d_Md_norm_33 : decode b_Md_norm 33 = .ok (.goto (-21), 3) := by decide +kernel
theorem d_Md_findRounds_201 : decode b_Md_findRounds 201 = .ok (.iinc 1 1, 3) := by decide +kernel
theorem d_Md_findRounds_204 : decode b_Md_findRounds 204 = .ok (.goto (-75), 3) := by decide +kernel
theorem d_Md_findRounds_163 : decode b_Md_findRounds 163 = .ok (.aload_n 0, 1) := by decide +kernel
theorem d_Md_findRounds_164 : decode b_Md_findRounds 164 = .ok (.getfield 84, 3) := by decide +kernel
theorem d_Md_findRounds_167 : decode b_Md_findRounds 167 = .ok (.iload_n 2, 1) := by decide +kernel
theorem d_Md_findRounds_168 : decode b_Md_findRounds 168 = .ok (.iaload, 1) := by decide +kernel
theorem d_Md_findRounds_169 : decode b_Md_findRounds 169 = .ok (.ifCond .ge 22, 3) := by decide +kernel
theorem d_Md_findRounds_191 : decode b_Md_findRounds 191 = .ok (.aload_n 0, 1) := by decide +kernel
theorem d_Md_findRounds_192 : decode b_Md_findRounds 192 = .ok (.dup, 1) := by decide +kernel
theorem d_Md_findRounds_193 : decode b_Md_findRounds 193 = .ok (.getfield 331, 3) := by decide +kernel
theorem d_Md_findRounds_196 : decode b_Md_findRounds 196 = .ok (.iconst 1, 1) := by decide +kernel
theorem d_Md_findRounds_197 : decode b_Md_findRounds 197 = .ok (.iadd, 1) := by decide +kernel
theorem d_Md_findRounds_198 : decode b_Md_findRounds 198 = .ok (.putfield 331, 3) := by decide +kernel
theorem d_Md_findRounds_172 : decode b_Md_findRounds 172 = .ok (.aload_n 0, 1) := by decide +kernel
theorem d_Md_findRounds_173 : decode b_Md_findRounds 173 = .ok (.getfield 84, 3) := by decide +kernel
theorem d_Md_findRounds_176 : decode b_Md_findRounds 176 = .ok (.iload_n 2, 1) := by decide +kernel
theorem d_Md_findRounds_177 : decode b_Md_findRounds 177 = .ok (.aload_n 0, 1) := by decide +kernel
theorem d_Md_findRounds_178 : decode b_Md_findRounds 178 = .ok (.getfield 331, 3) := by decide +kernel
theorem d_Md_findRounds_181 : decode b_Md_findRounds 181 = .ok (.iastore, 1) := by decide +kernel
theorem d_Md_findRounds_182 : decode b_Md_findRounds 182 = .ok (.aload_n 0, 1) := by decide +kernel
theorem d_Md_findRounds_183 : decode b_Md_findRounds 183 = .ok (.iload_n 2, 1) := by decide +kernel
theorem d_Md_findRounds_184 : decode b_Md_findRounds 184 = .ok (.invokevirtual 333, 3) := by decide +kernel
theorem d_Md_findRounds_187 : decode b_Md_findRounds 187 = .ok (.istore_n 2, 1) := by decide +kernel
theorem d_Md_findRounds_188 : decode b_Md_findRounds 188 = .ok (.goto (-25), 3) := by decide +kernel
theorem d_Md_findRounds_139 : decode b_Md_findRounds 139 = .ok (.aload_n 0, 1) := by decide +kernel
theorem d_Md_findRounds_140 : decode b_Md_findRounds 140 = .ok (.getfield 84, 3) := by decide +kernel
theorem d_Md_findRounds_143 : decode b_Md_findRounds 143 = .ok (.iload_n 1, 1) := by decide +kernel
theorem d_Md_findRounds_144 : decode b_Md_findRounds 144 = .ok (.iaload, 1) := by decide +kernel
theorem d_Md_findRounds_145 : decode b_Md_findRounds 145 = .ok (.ifCond .lt 6, 3) := by decide +kernel
theorem d_Md_findRounds_151 : decode b_Md_findRounds 151 = .ok (.aload_n 0, 1) := by decide +kernel
theorem d_Md_findRounds_152 : decode b_Md_findRounds 152 = .ok (.getfield 87, 3) := by decide +kernel
theorem d_Md_findRounds_155 : decode b_Md_findRounds 155 = .ok (.aload_n 0, 1) := by decide +kernel
theorem d_Md_findRounds_156 : decode b_Md_findRounds 156 = .ok (.getfield 331, 3) := by decide +kernel
theorem d_Md_findRounds_159 : decode b_Md_findRounds 159 = .ok (.iload_n 1, 1) := by decide +kernel
theorem d_Md_findRounds_160 : decode b_Md_findRounds 160 = .ok (.iastore, 1) := by decide +kernel
theorem d_Md_findRounds_161 : decode b_Md_findRounds 161 = .ok (.iload_n 1, 1) := by decide +kernel
theorem d_Md_findRounds_162 : decode b_Md_findRounds 162 = .ok (.istore_n 2, 1) := by decide +kernel
theorem d_Md_findRounds_148 : decode b_Md_findRounds 148 = .ok (.goto 53, 3) := by decide +kernel
theorem d_Md_findRounds_114 : decode b_Md_findRounds 114 = .ok (.aload_n 0, 1) := by decide +kernel
theorem d_Md_findRounds_115 : decode b_Md_findRounds 115 = .ok (.getfield 84, 3) := by decide +kernel
theorem d_Md_findRounds_118 : decode b_Md_findRounds 118 = .ok (.iload_n 1, 1) := by decide +kernel
theorem d_Md_findRounds_119 : decode b_Md_findRounds 119 = .ok (.iconst (-1), 1) := by decide +kernel
theorem d_Md_findRounds_120 : decode b_Md_findRounds 120 = .ok (.iastore, 1) := by decide +kernel
theorem d_Md_findRounds_121 : decode b_Md_findRounds 121 = .ok (.iinc 1 1, 3) := by decide +kernel
theorem d_Md_findRounds_124 : decode b_Md_findRounds 124 = .ok (.goto (-20), 3) := by decide +kernel
theorem d_Md_findRounds_91 : decode b_Md_findRounds 91 = .ok (.iinc 1 1, 3) := by decide +kernel
theorem d_Md_findRounds_94 : decode b_Md_findRounds 94 = .ok (.goto (-64), 3) := by decide +kernel
theorem d_Md_findRounds_52 : decode b_Md_findRounds 52 = .ok (.aload_n 0, 1) := by decide +kernel
theorem d_Md_findRounds_53 : decode b_Md_findRounds 53 = .ok (.getfield 78, 3) := by decide +kernel
theorem d_Md_findRounds_56 : decode b_Md_findRounds 56 = .ok (.iload_n 2, 1) := by decide +kernel
theorem d_Md_findRounds_57 : decode b_Md_findRounds 57 = .ok (.iaload, 1) := by decide +kernel
theorem d_Md_findRounds_58 : decode b_Md_findRounds 58 = .ok (.ifCond .ge 23, 3) := by decide +kernel
theorem d_Md_findRounds_81 : decode b_Md_findRounds 81 = .ok (.aload_n 0, 1) := by decide +kernel
theorem d_Md_findRounds_82 : decode b_Md_findRounds 82 = .ok (.dup, 1) := by decide +kernel
theorem d_Md_findRounds_83 : decode b_Md_findRounds 83 = .ok (.getfield 328, 3) := by decide +kernel
theorem d_Md_findRounds_86 : decode b_Md_findRounds 86 = .ok (.iconst 1, 1) := by decide +kernel
theorem d_Md_findRounds_87 : decode b_Md_findRounds 87 = .ok (.iadd, 1) := by decide +kernel
theorem d_Md_findRounds_88 : decode b_Md_findRounds 88 = .ok (.putfield 328, 3) := by decide +kernel
theorem d_Md_findRounds_61 : decode b_Md_findRounds 61 = .ok (.aload_n 0, 1) := by decide +kernel
theorem d_Md_findRounds_62 : decode b_Md_findRounds 62 = .ok (.getfield 78, 3) := by decide +kernel
theorem d_Md_findRounds_65 : decode b_Md_findRounds 65 = .ok (.iload_n 2, 1) := by decide +kernel
theorem d_Md_findRounds_66 : decode b_Md_findRounds 66 = .ok (.aload_n 0, 1) := by decide +kernel
theorem d_Md_findRounds_67 : decode b_Md_findRounds 67 = .ok (.getfield 328, 3) := by decide +kernel
theorem d_Md_findRounds_70 : decode b_Md_findRounds 70 = .ok (.iastore, 1) := by decide +kernel
theorem d_Md_findRounds_71 : decode b_Md_findRounds 71 = .ok (.aload_n 0, 1) := by decide +kernel
theorem d_Md_findRounds_72 : decode b_Md_findRounds 72 = .ok (.getfield 75, 3) := by decide +kernel
theorem d_Md_findRounds_75 : decode b_Md_findRounds 75 = .ok (.iload_n 2, 1) := by decide +kernel
theorem d_Md_findRounds_76 : decode b_Md_findRounds 76 = .ok (.iaload, 1) := by decide +kernel
theorem d_Md_findRounds_77 : decode b_Md_findRounds 77 = .ok (.istore_n 2, 1) := by decide +kernel
theorem d_Md_findRounds_78 : decode b_Md_findRounds 78 = .ok (.goto (-26), 3) := by decide +kernel
theorem d_Md_findRounds_38 : decode b_Md_findRounds 38 = .ok (.aload_n 0, 1) := by decide +kernel
theorem d_Md_findRounds_39 : decode b_Md_findRounds 39 = .ok (.getfield 78, 3) := by decide +kernel
theorem d_Md_findRounds_42 : decode b_Md_findRounds 42 = .ok (.iload_n 1, 1) := by decide +kernel
theorem d_Md_findRounds_43 : decode b_Md_findRounds 43 = .ok (.iaload, 1) := by decide +kernel
theorem d_Md_findRounds_44 : decode b_Md_findRounds 44 = .ok (.ifCond .lt 6, 3) := by decide +kernel
theorem d_Md_findRounds_50 : decode b_Md_findRounds 50 = .ok (.iload_n 1, 1) := by decide +kernel
theorem d_Md_findRounds_51 : decode b_Md_findRounds 51 = .ok (.istore_n 2, 1) := by decide +kernel
theorem d_Md_findRounds_47 : decode b_Md_findRounds 47 = .ok (.goto 44, 3) := by decide +kernel
theorem d_Md_findRounds_15 : decode b_Md_findRounds 15 = .ok (.aload_n 0, 1) := by decide +kernel
theorem d_Md_findRounds_16 : decode b_Md_findRounds 16 = .ok (.getfield 78, 3) := by decide +kernel
theorem d_Md_findRounds_19 : decode b_Md_findRounds 19 = .ok (.iload_n 1, 1) := by decide +kernel
theorem d_Md_findRounds_20 : decode b_Md_findRounds 20 = .ok (.iconst (-1), 1) := by decide +kernel
theorem d_Md_findRounds_21 : decode b_Md_findRounds 21 = .ok (.iastore, 1) := by decide +kernel
theorem d_Md_findRounds_22 : decode b_Md_findRounds 22 = .ok (.iinc 1 1, 3) := by decide +kernel
theorem d_Md_findRounds_25 : decode b_Md_findRounds 25 = .ok (.goto (-18), 3) := by decide +kernel
theorem d_Md_what_16 : decode b_Md_what 16 = .ok (.iload_n 2, 1) := by decide +kernel
theorem d_Md_what_17 : decode b_Md_what 17 = .ok (.iconst 1, 1) := by decide +kernel
theorem d_Md_what_18 : decode b_Md_what 18 = .ok (.if_icmp .ne 7, 3) := by decide +kernel
theorem d_Md_what_25 : decode b_Md_what 25 = .ok (.iconst 0, 1) := by decide +kernel
theorem d_Md_what_26 : decode b_Md_what 26 = .ok (.ireturn, 1) := by decide +kernel
theorem d_Md_what_21 : decode b_Md_what 21 = .ok (.iconst 1, 1) := by decide +kernel
theorem d_Md_what_22 : decode b_Md_what 22 = .ok (.goto 4, 3) := by decide +kernel
theorem d_Md_what_203 : decode b_Md_what 203 = .ok (.istore 12, 2) := by decide +kernel
theorem d_Md_what_205 : decode b_Md_what 205 = .ok (.iload 6, 2) := by decide +kernel
theorem d_Md_what_207 : decode b_Md_what 207 = .ok (.iload 7, 2) := by decide +kernel
theorem d_Md_what_209 : decode b_Md_what 209 = .ok (.if_icmp .eq 26, 3) := by decide +kernel
theorem d_Md_what_235 : decode b_Md_what 235 = .ok (.iconst 0, 1) := by decide +kernel
theorem d_Md_what_236 : decode b_Md_what 236 = .ok (.ireturn, 1) := by decide +kernel
theorem d_Md_what_212 : decode b_Md_what 212 = .ok (.iload 7, 2) := by decide +kernel
theorem d_Md_what_214 : decode b_Md_what 214 = .ok (.iload 8, 2) := by decide +kernel
theorem d_Md_what_216 : decode b_Md_what 216 = .ok (.if_icmp .eq 19, 3) := by decide +kernel
theorem d_Md_what_219 : decode b_Md_what 219 = .ok (.iload 6, 2) := by decide +kernel
theorem d_Md_what_221 : decode b_Md_what 221 = .ok (.iload 8, 2) := by decide +kernel
theorem d_Md_what_223 : decode b_Md_what 223 = .ok (.if_icmp .eq 12, 3) := by decide +kernel
theorem d_Md_what_226 : decode b_Md_what 226 = .ok (.iload 12, 2) := by decide +kernel
theorem d_Md_what_228 : decode b_Md_what 228 = .ok (.ifCond .eq 7, 3) := by decide +kernel
theorem d_Md_what_231 : decode b_Md_what 231 = .ok (.iconst 3, 1) := by decide +kernel
theorem d_Md_what_232 : decode b_Md_what 232 = .ok (.goto 4, 3) := by decide +kernel
theorem d_Md_what_198 : decode b_Md_what 198 = .ok (.iconst 1, 1) := by decide +kernel
theorem d_Md_what_199 : decode b_Md_what 199 = .ok (.goto 4, 3) := by decide +kernel
theorem d_Md_what_202 : decode b_Md_what 202 = .ok (.iconst 0, 1) := by decide +kernel
theorem d_Md_what_180 : decode b_Md_what 180 = .ok (.iload 9, 2) := by decide +kernel
theorem d_Md_what_182 : decode b_Md_what 182 = .ok (.iconst 1, 1) := by decide +kernel
theorem d_Md_what_183 : decode b_Md_what 183 = .ok (.if_icmp .eq 15, 3) := by decide +kernel
theorem d_Md_what_186 : decode b_Md_what 186 = .ok (.iload 10, 2) := by decide +kernel
theorem d_Md_what_188 : decode b_Md_what 188 = .ok (.iconst 1, 1) := by decide +kernel
theorem d_Md_what_189 : decode b_Md_what 189 = .ok (.if_icmp .eq 9, 3) := by decide +kernel
theorem d_Md_what_192 : decode b_Md_what 192 = .ok (.iload 11, 2) := by decide +kernel
theorem d_Md_what_194 : decode b_Md_what 194 = .ok (.iconst 1, 1) := by decide +kernel
theorem d_Md_what_195 : decode b_Md_what 195 = .ok (.if_icmp .ne 7, 3) := by decide +kernel
theorem d_Md_what_165 : decode b_Md_what 165 = .ok (.iload 9, 2) := by decide +kernel
theorem d_Md_what_167 : decode b_Md_what 167 = .ok (.ifCond .eq 13, 3) := by decide +kernel
theorem d_Md_what_170 : decode b_Md_what 170 = .ok (.iload 10, 2) := by decide +kernel
theorem d_Md_what_172 : decode b_Md_what 172 = .ok (.ifCond .eq 8, 3) := by decide +kernel
theorem d_Md_what_175 : decode b_Md_what 175 = .ok (.iload 11, 2) := by decide +kernel
theorem d_Md_what_177 : decode b_Md_what 177 = .ok (.ifCond .ne 25, 3) := by decide +kernel
theorem d_Md_what_141 : decode b_Md_what 141 = .ok (.iconst 2, 1) := by decide +kernel
theorem d_Md_what_142 : decode b_Md_what 142 = .ok (.goto 4, 3) := by decide +kernel
theorem d_Md_what_146 : decode b_Md_what 146 = .ok (.ireturn, 1) := by decide +kernel
theorem d_Md_what_130 : decode b_Md_what 130 = .ok (.iload 9, 2) := by decide +kernel
theorem d_Md_what_132 : decode b_Md_what 132 = .ok (.ifCond .ne 13, 3) := by decide +kernel
theorem d_Md_what_145 : decode b_Md_what 145 = .ok (.iconst 0, 1) := by decide +kernel
theorem d_Md_what_135 : decode b_Md_what 135 = .ok (.iload 10, 2) := by decide +kernel
theorem d_Md_what_137 : decode b_Md_what 137 = .ok (.iconst 2, 1) := by decide +kernel
theorem d_Md_what_138 : decode b_Md_what 138 = .ok (.if_icmp .ne 7, 3) := by decide +kernel
theorem d_Md_what_0 : decode b_Md_what 0 = .ok (.aload_n 0, 1) := by decide +kernel
theorem d_Md_what_1 : decode b_Md_what 1 = .ok (.iload_n 1, 1) := by decide +kernel
theorem d_Md_what_2 : decode b_Md_what 2 = .ok (.invokevirtual 373, 3) := by decide +kernel
theorem d_Md_what_5 : decode b_Md_what 5 = .ok (.istore_n 2, 1) := by decide +kernel
theorem d_Md_what_6 : decode b_Md_what 6 = .ok (.iload_n 2, 1) := by decide +kernel
theorem d_Md_what_7 : decode b_Md_what 7 = .ok (.iconst 1, 1) := by decide +kernel
theorem d_Md_what_8 : decode b_Md_what 8 = .ok (.if_icmp .eq 8, 3) := by decide +kernel
theorem d_Md_what_11 : decode b_Md_what 11 = .ok (.iload_n 2, 1) := by decide +kernel
theorem d_Md_what_12 : decode b_Md_what 12 = .ok (.iconst 3, 1) := by decide +kernel
theorem d_Md_what_13 : decode b_Md_what 13 = .ok (.if_icmp .le 14, 3) := by decide +kernel
theorem d_Md_what_27 : decode b_Md_what 27 = .ok (.aload_n 0, 1) := by decide +kernel
theorem d_Md_what_28 : decode b_Md_what 28 = .ok (.getfield 87, 3) := by decide +kernel
theorem d_Md_what_31 : decode b_Md_what 31 = .ok (.iload_n 1, 1) := by decide +kernel
theorem d_Md_what_32 : decode b_Md_what 32 = .ok (.iaload, 1) := by decide +kernel
theorem d_Md_what_33 : decode b_Md_what 33 = .ok (.istore_n 3, 1) := by decide +kernel
theorem d_Md_what_34 : decode b_Md_what 34 = .ok (.aload_n 0, 1) := by decide +kernel
theorem d_Md_what_35 : decode b_Md_what 35 = .ok (.iload_n 3, 1) := by decide +kernel
theorem d_Md_what_36 : decode b_Md_what 36 = .ok (.invokevirtual 333, 3) := by decide +kernel
theorem d_Md_what_39 : decode b_Md_what 39 = .ok (.istore 4, 2) := by decide +kernel
theorem d_Md_what_41 : decode b_Md_what 41 = .ok (.aload_n 0, 1) := by decide +kernel
theorem d_Md_what_42 : decode b_Md_what 42 = .ok (.iload 4, 2) := by decide +kernel
theorem d_Md_what_44 : decode b_Md_what 44 = .ok (.invokevirtual 333, 3) := by decide +kernel
theorem d_Md_what_47 : decode b_Md_what 47 = .ok (.istore 5, 2) := by decide +kernel
theorem d_Md_what_49 : decode b_Md_what 49 = .ok (.aload_n 0, 1) := by decide +kernel
theorem d_Md_what_50 : decode b_Md_what 50 = .ok (.iload_n 3, 1) := by decide +kernel
theorem d_Md_what_51 : decode b_Md_what 51 = .ok (.invokevirtual 325, 3) := by decide +kernel
theorem d_Md_what_54 : decode b_Md_what 54 = .ok (.iconst 2, 1) := by decide +kernel
theorem d_Md_what_55 : decode b_Md_what 55 = .ok (.ishr, 1) := by decide +kernel
theorem d_Md_what_56 : decode b_Md_what 56 = .ok (.istore 6, 2) := by decide +kernel
theorem d_Md_what_58 : decode b_Md_what 58 = .ok (.aload_n 0, 1) := by decide +kernel
theorem d_Md_what_59 : decode b_Md_what 59 = .ok (.iload 4, 2) := by decide +kernel
theorem d_Md_what_61 : decode b_Md_what 61 = .ok (.invokevirtual 325, 3) := by decide +kernel
theorem d_Md_what_64 : decode b_Md_what 64 = .ok (.iconst 2, 1) := by decide +kernel
theorem d_Md_what_65 : decode b_Md_what 65 = .ok (.ishr, 1) := by decide +kernel
theorem d_Md_what_66 : decode b_Md_what 66 = .ok (.istore 7, 2) := by decide +kernel
theorem d_Md_what_68 : decode b_Md_what 68 = .ok (.aload_n 0, 1) := by decide +kernel
theorem d_Md_what_69 : decode b_Md_what 69 = .ok (.iload 5, 2) := by decide +kernel
theorem d_Md_what_71 : decode b_Md_what 71 = .ok (.invokevirtual 325, 3) := by decide +kernel
theorem d_Md_what_74 : decode b_Md_what 74 = .ok (.iconst 2, 1) := by decide +kernel
theorem d_Md_what_75 : decode b_Md_what 75 = .ok (.ishr, 1) := by decide +kernel
theorem d_Md_what_76 : decode b_Md_what 76 = .ok (.istore 8, 2) := by decide +kernel
theorem d_Md_what_78 : decode b_Md_what 78 = .ok (.aload_n 0, 1) := by decide +kernel
theorem d_Md_what_79 : decode b_Md_what 79 = .ok (.iload_n 3, 1) := by decide +kernel
