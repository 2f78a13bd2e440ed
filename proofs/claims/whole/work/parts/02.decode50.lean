theorem d_Md_meet_122 : decode b_Md_meet 122 = .ok (.invokestatic 466, 3) := by decide +kernel
theorem d_Md_meet_125 : decode b_Md_meet 125 = .ok (.ifCond .lt 48, 3) := by decide +kernel
theorem d_Md_meet_128 : decode b_Md_meet 128 = .ok (.aload_n 0, 1) := by decide +kernel
theorem d_Md_meet_129 : decode b_Md_meet 129 = .ok (.getfield 120, 3) := by decide +kernel
theorem d_Md_meet_132 : decode b_Md_meet 132 = .ok (.invokestatic 466, 3) := by decide +kernel
theorem d_Md_meet_135 : decode b_Md_meet 135 = .ok (.aload_n 0, 1) := by decide +kernel
theorem d_Md_meet_136 : decode b_Md_meet 136 = .ok (.getfield 123, 3) := by decide +kernel
theorem d_Md_meet_139 : decode b_Md_meet 139 = .ok (.invokestatic 466, 3) := by decide +kernel
theorem d_Md_meet_142 : decode b_Md_meet 142 = .ok (.if_icmp .lt 17, 3) := by decide +kernel
theorem d_Md_meet_145 : decode b_Md_meet 145 = .ok (.aload_n 0, 1) := by decide +kernel
theorem d_Md_meet_146 : decode b_Md_meet 146 = .ok (.getfield 120, 3) := by decide +kernel
theorem d_Md_meet_149 : decode b_Md_meet 149 = .ok (.aload_n 0, 1) := by decide +kernel
theorem d_Md_meet_150 : decode b_Md_meet 150 = .ok (.getfield 123, 3) := by decide +kernel
theorem d_Md_meet_153 : decode b_Md_meet 153 = .ok (.invokestatic 486, 3) := by decide +kernel
theorem d_Md_meet_156 : decode b_Md_meet 156 = .ok (.goto (-48), 3) := by decide +kernel
theorem d_Md_meet_159 : decode b_Md_meet 159 = .ok (.aload_n 0, 1) := by decide +kernel
theorem d_Md_meet_160 : decode b_Md_meet 160 = .ok (.getfield 123, 3) := by decide +kernel
theorem d_Md_meet_163 : decode b_Md_meet 163 = .ok (.aload_n 0, 1) := by decide +kernel
theorem d_Md_meet_164 : decode b_Md_meet 164 = .ok (.getfield 120, 3) := by decide +kernel
theorem d_Md_meet_167 : decode b_Md_meet 167 = .ok (.invokestatic 486, 3) := by decide +kernel
theorem d_Md_meet_170 : decode b_Md_meet 170 = .ok (.goto (-62), 3) := by decide +kernel
theorem d_Md_meet_173 : decode b_Md_meet 173 = .ok (.aload_n 0, 1) := by decide +kernel
theorem d_Md_meet_174 : decode b_Md_meet 174 = .ok (.getfield 120, 3) := by decide +kernel
theorem d_Md_meet_177 : decode b_Md_meet 177 = .ok (.invokestatic 466, 3) := by decide +kernel
theorem d_Md_meet_180 : decode b_Md_meet 180 = .ok (.ifCond .lt 7, 3) := by decide +kernel
theorem d_Md_meet_183 : decode b_Md_meet 183 = .ok (.iconst 1, 1) := by decide +kernel
theorem d_Md_meet_184 : decode b_Md_meet 184 = .ok (.goto 4, 3) := by decide +kernel
theorem d_Md_meet_187 : decode b_Md_meet 187 = .ok (.iconst 0, 1) := by decide +kernel
theorem d_Md_meet_188 : decode b_Md_meet 188 = .ok (.istore_n 3, 1) := by decide +kernel
theorem d_Md_meet_189 : decode b_Md_meet 189 = .ok (.iconst 0, 1) := by decide +kernel
theorem d_Md_meet_190 : decode b_Md_meet 190 = .ok (.istore 4, 2) := by decide +kernel
theorem d_Md_meet_192 : decode b_Md_meet 192 = .ok (.iload 4, 2) := by decide +kernel
theorem d_Md_meet_194 : decode b_Md_meet 194 = .ok (.bipush 16, 2) := by decide +kernel
theorem d_Md_meet_196 : decode b_Md_meet 196 = .ok (.if_icmp .ge 39, 3) := by decide +kernel
theorem d_Md_meet_199 : decode b_Md_meet 199 = .ok (.aload_n 0, 1) := by decide +kernel
theorem d_Md_meet_200 : decode b_Md_meet 200 = .ok (.getfield 120, 3) := by decide +kernel
theorem d_Md_meet_203 : decode b_Md_meet 203 = .ok (.iload 4, 2) := by decide +kernel
theorem d_Md_meet_205 : decode b_Md_meet 205 = .ok (.lload_n 1, 1) := by decide +kernel
theorem d_Md_meet_206 : decode b_Md_meet 206 = .ok (.iload_n 3, 1) := by decide +kernel
theorem d_Md_meet_207 : decode b_Md_meet 207 = .ok (.ifCond .eq 13, 3) := by decide +kernel
theorem d_Md_meet_210 : decode b_Md_meet 210 = .ok (.aload_n 0, 1) := by decide +kernel
theorem d_Md_meet_211 : decode b_Md_meet 211 = .ok (.getfield 120, 3) := by decide +kernel
theorem d_Md_meet_214 : decode b_Md_meet 214 = .ok (.iload 4, 2) := by decide +kernel
theorem d_Md_meet_216 : decode b_Md_meet 216 = .ok (.laload, 1) := by decide +kernel
theorem d_Md_meet_217 : decode b_Md_meet 217 = .ok (.goto 10, 3) := by decide +kernel
theorem d_Md_meet_220 : decode b_Md_meet 220 = .ok (.aload_n 0, 1) := by decide +kernel
theorem d_Md_meet_221 : decode b_Md_meet 221 = .ok (.getfield 123, 3) := by decide +kernel
theorem d_Md_meet_224 : decode b_Md_meet 224 = .ok (.iload 4, 2) := by decide +kernel
theorem d_Md_meet_226 : decode b_Md_meet 226 = .ok (.laload, 1) := by decide +kernel
theorem d_Md_meet_227 : decode b_Md_meet 227 = .ok (.lmul, 1) := by decide +kernel
theorem d_Md_meet_228 : decode b_Md_meet 228 = .ok (.lastore, 1) := by decide +kernel
theorem d_Md_meet_229 : decode b_Md_meet 229 = .ok (.iinc 4 1, 3) := by decide +kernel
theorem d_Md_meet_232 : decode b_Md_meet 232 = .ok (.goto (-40), 3) := by decide +kernel
theorem d_Md_meet_235 : decode b_Md_meet 235 = .ok (.return_, 1) := by decide +kernel
theorem d_Md_meetMinors_0 : decode b_Md_meetMinors 0 = .ok (.aload_n 0, 1) := by decide +kernel
theorem d_Md_meetMinors_1 : decode b_Md_meetMinors 1 = .ok (.iload_n 1, 1) := by decide +kernel
theorem d_Md_meetMinors_2 : decode b_Md_meetMinors 2 = .ok (.iload_n 2, 1) := by decide +kernel
theorem d_Md_meetMinors_3 : decode b_Md_meetMinors 3 = .ok (.invokevirtual 490, 3) := by decide +kernel
theorem d_Md_meetMinors_6 : decode b_Md_meetMinors 6 = .ok (.iconst 0, 1) := by decide +kernel
theorem d_Md_meetMinors_7 : decode b_Md_meetMinors 7 = .ok (.istore 4, 2) := by decide +kernel
theorem d_Md_meetMinors_9 : decode b_Md_meetMinors 9 = .ok (.iload 4, 2) := by decide +kernel
theorem d_Md_meetMinors_11 : decode b_Md_meetMinors 11 = .ok (.iconst 1, 1) := by decide +kernel
theorem d_Md_meetMinors_12 : decode b_Md_meetMinors 12 = .ok (.iload_n 2, 1) := by decide +kernel
theorem d_Md_meetMinors_13 : decode b_Md_meetMinors 13 = .ok (.ishl, 1) := by decide +kernel
theorem d_Md_meetMinors_14 : decode b_Md_meetMinors 14 = .ok (.if_icmp .ge 99, 3) := by decide +kernel
theorem d_Md_meetMinors_17 : decode b_Md_meetMinors 17 = .ok (.iconst 0, 1) := by decide +kernel
theorem d_Md_meetMinors_18 : decode b_Md_meetMinors 18 = .ok (.istore 5, 2) := by decide +kernel
theorem d_Md_meetMinors_20 : decode b_Md_meetMinors 20 = .ok (.iconst 0, 1) := by decide +kernel
theorem d_Md_meetMinors_21 : decode b_Md_meetMinors 21 = .ok (.istore 6, 2) := by decide +kernel
theorem d_Md_meetMinors_23 : decode b_Md_meetMinors 23 = .ok (.iload 6, 2) := by decide +kernel
theorem d_Md_meetMinors_25 : decode b_Md_meetMinors 25 = .ok (.iload_n 2, 1) := by decide +kernel
theorem d_Md_meetMinors_26 : decode b_Md_meetMinors 26 = .ok (.if_icmp .ge 21, 3) := by decide +kernel
theorem d_Md_meetMinors_29 : decode b_Md_meetMinors 29 = .ok (.iload 5, 2) := by decide +kernel
theorem d_Md_meetMinors_31 : decode b_Md_meetMinors 31 = .ok (.iload 4, 2) := by decide +kernel
theorem d_Md_meetMinors_33 : decode b_Md_meetMinors 33 = .ok (.iload 6, 2) := by decide +kernel
theorem d_Md_meetMinors_35 : decode b_Md_meetMinors 35 = .ok (.ishr, 1) := by decide +kernel
theorem d_Md_meetMinors_36 : decode b_Md_meetMinors 36 = .ok (.iconst 1, 1) := by decide +kernel
theorem d_Md_meetMinors_37 : decode b_Md_meetMinors 37 = .ok (.iand, 1) := by decide +kernel
theorem d_Md_meetMinors_38 : decode b_Md_meetMinors 38 = .ok (.iadd, 1) := by decide +kernel
theorem d_Md_meetMinors_39 : decode b_Md_meetMinors 39 = .ok (.istore 5, 2) := by decide +kernel
theorem d_Md_meetMinors_41 : decode b_Md_meetMinors 41 = .ok (.iinc 6 1, 3) := by decide +kernel
theorem d_Md_meetMinors_44 : decode b_Md_meetMinors 44 = .ok (.goto (-21), 3) := by decide +kernel
theorem d_Md_meetMinors_47 : decode b_Md_meetMinors 47 = .ok (.iload 5, 2) := by decide +kernel
theorem d_Md_meetMinors_49 : decode b_Md_meetMinors 49 = .ok (.iload_n 3, 1) := by decide +kernel
theorem d_Md_meetMinors_50 : decode b_Md_meetMinors 50 = .ok (.if_icmp .eq 6, 3) := by decide +kernel
theorem d_Md_meetMinors_53 : decode b_Md_meetMinors 53 = .ok (.goto 54, 3) := by decide +kernel
theorem d_Md_meetMinors_56 : decode b_Md_meetMinors 56 = .ok (.iconst 0, 1) := by decide +kernel
theorem d_Md_meetMinors_57 : decode b_Md_meetMinors 57 = .ok (.istore 6, 2) := by decide +kernel
theorem d_Md_meetMinors_59 : decode b_Md_meetMinors 59 = .ok (.iload 6, 2) := by decide +kernel
theorem d_Md_meetMinors_61 : decode b_Md_meetMinors 61 = .ok (.bipush 16, 2) := by decide +kernel
theorem d_Md_meetMinors_63 : decode b_Md_meetMinors 63 = .ok (.if_icmp .ge 40, 3) := by decide +kernel
theorem d_Md_meetMinors_66 : decode b_Md_meetMinors 66 = .ok (.aload_n 0, 1) := by decide +kernel
theorem d_Md_meetMinors_67 : decode b_Md_meetMinors 67 = .ok (.getfield 123, 3) := by decide +kernel
theorem d_Md_meetMinors_70 : decode b_Md_meetMinors 70 = .ok (.iload 6, 2) := by decide +kernel
theorem d_Md_meetMinors_72 : decode b_Md_meetMinors 72 = .ok (.iload 6, 2) := by decide +kernel
theorem d_Md_meetMinors_74 : decode b_Md_meetMinors 74 = .ok (.bipush 12, 2) := by decide +kernel
theorem d_Md_meetMinors_76 : decode b_Md_meetMinors 76 = .ok (.if_icmp .ge 19, 3) := by decide +kernel
theorem d_Md_meetMinors_79 : decode b_Md_meetMinors 79 = .ok (.aload_n 0, 1) := by decide +kernel
theorem d_Md_meetMinors_80 : decode b_Md_meetMinors 80 = .ok (.getfield 117, 3) := by decide +kernel
theorem d_Md_meetMinors_83 : decode b_Md_meetMinors 83 = .ok (.bipush 12, 2) := by decide +kernel
theorem d_Md_meetMinors_85 : decode b_Md_meetMinors 85 = .ok (.iload 4, 2) := by decide +kernel
theorem d_Md_meetMinors_87 : decode b_Md_meetMinors 87 = .ok (.imul, 1) := by decide +kernel
theorem d_Md_meetMinors_88 : decode b_Md_meetMinors 88 = .ok (.iload 6, 2) := by decide +kernel
theorem d_Md_meetMinors_90 : decode b_Md_meetMinors 90 = .ok (.iadd, 1) := by decide +kernel
theorem d_Md_meetMinors_91 : decode b_Md_meetMinors 91 = .ok (.laload, 1) := by decide +kernel
theorem d_Md_meetMinors_92 : decode b_Md_meetMinors 92 = .ok (.goto 4, 3) := by decide +kernel
theorem d_Md_meetMinors_95 : decode b_Md_meetMinors 95 = .ok (.lconst 0, 1) := by decide +kernel
theorem d_Md_meetMinors_96 : decode b_Md_meetMinors 96 = .ok (.lastore, 1) := by decide +kernel
theorem d_Md_meetMinors_97 : decode b_Md_meetMinors 97 = .ok (.iinc 6 1, 3) := by decide +kernel
theorem d_Md_meetMinors_100 : decode b_Md_meetMinors 100 = .ok (.goto (-41), 3) := by decide +kernel
theorem d_Md_meetMinors_103 : decode b_Md_meetMinors 103 = .ok (.aload_n 0, 1) := by decide +kernel
theorem d_Md_meetMinors_104 : decode b_Md_meetMinors 104 = .ok (.invokevirtual 493, 3) := by decide +kernel
theorem d_Md_meetMinors_107 : decode b_Md_meetMinors 107 = .ok (.iinc 4 1, 3) := by decide +kernel
theorem d_Md_meetMinors_110 : decode b_Md_meetMinors 110 = .ok (.goto (-101), 3) := by decide +kernel
theorem d_Md_meetMinors_113 : decode b_Md_meetMinors 113 = .ok (.return_, 1) := by decide +kernel
theorem d_Md_merge_0 : decode b_Md_merge 0 = .ok (.iload_n 1, 1) := by decide +kernel
theorem d_Md_merge_1 : decode b_Md_merge 1 = .ok (.iload_n 2, 1) := by decide +kernel
theorem d_Md_merge_2 : decode b_Md_merge 2 = .ok (.if_icmp .ne 17, 3) := by decide +kernel
theorem d_Md_merge_5 : decode b_Md_merge 5 = .ok (.aload_n 0, 1) := by decide +kernel
theorem d_Md_merge_6 : decode b_Md_merge 6 = .ok (.getfield 37, 3) := by decide +kernel
theorem d_Md_merge_9 : decode b_Md_merge 9 = .ok (.dup, 1) := by decide +kernel
theorem d_Md_merge_10 : decode b_Md_merge 10 = .ok (.getfield 354, 3) := by decide +kernel
theorem d_Md_merge_13 : decode b_Md_merge 13 = .ok (.iconst 1, 1) := by decide +kernel
theorem d_Md_merge_14 : decode b_Md_merge 14 = .ok (.iadd, 1) := by decide +kernel
theorem d_Md_merge_15 : decode b_Md_merge 15 = .ok (.putfield 354, 3) := by decide +kernel
theorem d_Md_merge_18 : decode b_Md_merge 18 = .ok (.return_, 1) := by decide +kernel
theorem d_Md_merge_19 : decode b_Md_merge 19 = .ok (.iload_n 1, 1) := by decide +kernel
theorem d_Md_merge_20 : decode b_Md_merge 20 = .ok (.iload_n 2, 1) := by decide +kernel
theorem d_Md_merge_21 : decode b_Md_merge 21 = .ok (.if_icmp .ge 7, 3) := by decide +kernel
theorem d_Md_merge_24 : decode b_Md_merge 24 = .ok (.iload_n 1, 1) := by decide +kernel
theorem d_Md_merge_25 : decode b_Md_merge 25 = .ok (.goto 4, 3) := by decide +kernel
theorem d_Md_merge_28 : decode b_Md_merge 28 = .ok (.iload_n 2, 1) := by decide +kernel
theorem d_Md_merge_29 : decode b_Md_merge 29 = .ok (.istore_n 3, 1) := by decide +kernel
theorem d_Md_merge_30 : decode b_Md_merge 30 = .ok (.iconst 0, 1) := by decide +kernel
theorem d_Md_merge_31 : decode b_Md_merge 31 = .ok (.istore 4, 2) := by decide +kernel
theorem d_Md_merge_33 : decode b_Md_merge 33 = .ok (.iload 4, 2) := by decide +kernel
theorem d_Md_merge_35 : decode b_Md_merge 35 = .ok (.iconst 4, 1) := by decide +kernel
theorem d_Md_merge_36 : decode b_Md_merge 36 = .ok (.aload_n 0, 1) := by decide +kernel
theorem d_Md_merge_37 : decode b_Md_merge 37 = .ok (.getfield 37, 3) := by decide +kernel
theorem d_Md_merge_40 : decode b_Md_merge 40 = .ok (.getfield 312, 3) := by decide +kernel
theorem d_Md_merge_43 : decode b_Md_merge 43 = .ok (.imul, 1) := by decide +kernel
theorem d_Md_merge_44 : decode b_Md_merge 44 = .ok (.if_icmp .ge 61, 3) := by decide +kernel
theorem d_Md_merge_47 : decode b_Md_merge 47 = .ok (.aload_n 0, 1) := by decide +kernel
theorem d_Md_merge_48 : decode b_Md_merge 48 = .ok (.getfield 37, 3) := by decide +kernel
theorem d_Md_merge_51 : decode b_Md_merge 51 = .ok (.getfield 318, 3) := by decide +kernel
theorem d_Md_merge_54 : decode b_Md_merge 54 = .ok (.iload 4, 2) := by decide +kernel
theorem d_Md_merge_56 : decode b_Md_merge 56 = .ok (.aload_n 0, 1) := by decide +kernel
theorem d_Md_merge_57 : decode b_Md_merge 57 = .ok (.getfield 37, 3) := by decide +kernel
theorem d_Md_merge_60 : decode b_Md_merge 60 = .ok (.getfield 318, 3) := by decide +kernel
theorem d_Md_merge_63 : decode b_Md_merge 63 = .ok (.iload 4, 2) := by decide +kernel
theorem d_Md_merge_65 : decode b_Md_merge 65 = .ok (.iaload, 1) := by decide +kernel
theorem d_Md_merge_66 : decode b_Md_merge 66 = .ok (.iload_n 1, 1) := by decide +kernel
theorem d_Md_merge_67 : decode b_Md_merge 67 = .ok (.if_icmp .eq 17, 3) := by decide +kernel
theorem d_Md_merge_70 : decode b_Md_merge 70 = .ok (.aload_n 0, 1) := by decide +kernel
theorem d_Md_merge_71 : decode b_Md_merge 71 = .ok (.getfield 37, 3) := by decide +kernel
theorem d_Md_merge_74 : decode b_Md_merge 74 = .ok (.getfield 318, 3) := by decide +kernel
theorem d_Md_merge_77 : decode b_Md_merge 77 = .ok (.iload 4, 2) := by decide +kernel
theorem d_Md_merge_79 : decode b_Md_merge 79 = .ok (.iaload, 1) := by decide +kernel
theorem d_Md_merge_80 : decode b_Md_merge 80 = .ok (.iload_n 2, 1) := by decide +kernel
theorem d_Md_merge_81 : decode b_Md_merge 81 = .ok (.if_icmp .ne 7, 3) := by decide +kernel
theorem d_Md_merge_84 : decode b_Md_merge 84 = .ok (.iload_n 3, 1) := by decide +kernel
theorem d_Md_merge_85 : decode b_Md_merge 85 = .ok (.goto 13, 3) := by decide +kernel
theorem d_Md_merge_88 : decode b_Md_merge 88 = .ok (.aload_n 0, 1) := by decide +kernel
theorem d_Md_merge_89 : decode b_Md_merge 89 = .ok (.getfield 37, 3) := by decide +kernel
theorem d_Md_merge_92 : decode b_Md_merge 92 = .ok (.getfield 318, 3) := by decide +kernel
theorem d_Md_merge_95 : decode b_Md_merge 95 = .ok (.iload 4, 2) := by decide +kernel
theorem d_Md_merge_97 : decode b_Md_merge 97 = .ok (.iaload, 1) := by decide +kernel
theorem d_Md_merge_98 : decode b_Md_merge 98 = .ok (.iastore, 1) := by decide +kernel
theorem d_Md_merge_99 : decode b_Md_merge 99 = .ok (.iinc 4 1, 3) := by decide +kernel
theorem d_Md_merge_102 : decode b_Md_merge 102 = .ok (.goto (-69), 3) := by decide +kernel
theorem d_Md_merge_105 : decode b_Md_merge 105 = .ok (.return_, 1) := by decide +kernel
theorem d_Md_name_0 : decode b_Md_name 0 = .ok (.iload_n 0, 1) := by decide +kernel
theorem d_Md_name_1 : decode b_Md_name 1 = .ok (.tableswitch 134 1 17 #[83, 86, 89, 92, 95, 98, 101, 104, 107, 110, 113, 116, 119, 122, 125, 128, 131], 83) := by decide +kernel
theorem d_Md_name_84 : decode b_Md_name 84 = .ok (.ldc 210, 2) := by decide +kernel
theorem d_Md_name_86 : decode b_Md_name 86 = .ok (.areturn, 1) := by decide +kernel
theorem d_Md_name_87 : decode b_Md_name 87 = .ok (.ldc 212, 2) := by decide +kernel
theorem d_Md_name_89 : decode b_Md_name 89 = .ok (.areturn, 1) := by decide +kernel
theorem d_Md_name_90 : decode b_Md_name 90 = .ok (.ldc 214, 2) := by decide +kernel
theorem d_Md_name_92 : decode b_Md_name 92 = .ok (.areturn, 1) := by decide +kernel
theorem d_Md_name_93 : decode b_Md_name 93 = .ok (.ldc 216, 2) := by decide +kernel
theorem d_Md_name_95 : decode b_Md_name 95 = .ok (.areturn, 1) := by decide +kernel
theorem d_Md_name_96 : decode b_Md_name 96 = .ok (.ldc 218, 2) := by decide +kernel
theorem d_Md_name_98 : decode b_Md_name 98 = .ok (.areturn, 1) := by decide +kernel
theorem d_Md_name_99 : decode b_Md_name 99 = .ok (.ldc 220, 2) := by decide +kernel
theorem d_Md_name_101 : decode b_Md_name 101 = .ok (.areturn, 1) := by decide +kernel
theorem d_Md_name_102 : decode b_Md_name 102 = .ok (.ldc 222, 2) := by decide +kernel
theorem d_Md_name_104 : decode b_Md_name 104 = .ok (.areturn, 1) := by decide +kernel
theorem d_Md_name_105 : decode b_Md_name 105 = .ok (.ldc 224, 2) := by decide +kernel
theorem d_Md_name_107 : decode b_Md_name 107 = .ok (.areturn, 1) := by decide +kernel
theorem d_Md_name_108 : decode b_Md_name 108 = .ok (.ldc 226, 2) := by decide +kernel
theorem d_Md_name_110 : decode b_Md_name 110 = .ok (.areturn, 1) := by decide +kernel
theorem d_Md_name_111 : decode b_Md_name 111 = .ok (.ldc 228, 2) := by decide +kernel
theorem d_Md_name_113 : decode b_Md_name 113 = .ok (.areturn, 1) := by decide +kernel
theorem d_Md_name_114 : decode b_Md_name 114 = .ok (.ldc 230, 2) := by decide +kernel
theorem d_Md_name_116 : decode b_Md_name 116 = .ok (.areturn, 1) := by decide +kernel
theorem d_Md_name_117 : decode b_Md_name 117 = .ok (.ldc 232, 2) := by decide +kernel
theorem d_Md_name_119 : decode b_Md_name 119 = .ok (.areturn, 1) := by decide +kernel
theorem d_Md_name_120 : decode b_Md_name 120 = .ok (.ldc 233, 2) := by decide +kernel
theorem d_Md_name_122 : decode b_Md_name 122 = .ok (.areturn, 1) := by decide +kernel
theorem d_Md_name_123 : decode b_Md_name 123 = .ok (.ldc 235, 2) := by decide +kernel
