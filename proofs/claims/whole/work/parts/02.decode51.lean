theorem d_Md_name_125 : decode b_Md_name 125 = .ok (.areturn, 1) := by decide +kernel
theorem d_Md_name_126 : decode b_Md_name 126 = .ok (.ldc 237, 2) := by decide +kernel
theorem d_Md_name_128 : decode b_Md_name 128 = .ok (.areturn, 1) := by decide +kernel
theorem d_Md_name_129 : decode b_Md_name 129 = .ok (.ldc 239, 2) := by decide +kernel
theorem d_Md_name_131 : decode b_Md_name 131 = .ok (.areturn, 1) := by decide +kernel
theorem d_Md_name_132 : decode b_Md_name 132 = .ok (.ldc 241, 2) := by decide +kernel
theorem d_Md_name_134 : decode b_Md_name 134 = .ok (.areturn, 1) := by decide +kernel
theorem d_Md_name_135 : decode b_Md_name 135 = .ok (.ldc 243, 2) := by decide +kernel
theorem d_Md_name_137 : decode b_Md_name 137 = .ok (.areturn, 1) := by decide +kernel
theorem d_Md_need_0 : decode b_Md_need 0 = .ok (.aload_n 0, 1) := by decide +kernel
theorem d_Md_need_1 : decode b_Md_need 1 = .ok (.iload_n 1, 1) := by decide +kernel
theorem d_Md_need_2 : decode b_Md_need 2 = .ok (.invokevirtual 176, 3) := by decide +kernel
theorem d_Md_need_5 : decode b_Md_need 5 = .ok (.ifCond .eq 10, 3) := by decide +kernel
theorem d_Md_need_8 : decode b_Md_need 8 = .ok (.aload_n 0, 1) := by decide +kernel
theorem d_Md_need_9 : decode b_Md_need 9 = .ok (.invokevirtual 179, 3) := by decide +kernel
theorem d_Md_need_12 : decode b_Md_need 12 = .ok (.goto 7, 3) := by decide +kernel
theorem d_Md_need_15 : decode b_Md_need 15 = .ok (.aload_n 0, 1) := by decide +kernel
theorem d_Md_need_16 : decode b_Md_need 16 = .ok (.invokevirtual 182, 3) := by decide +kernel
theorem d_Md_need_19 : decode b_Md_need 19 = .ok (.return_, 1) := by decide +kernel
theorem d_Md_norm_0 : decode b_Md_norm 0 = .ok (.aload_n 0, 1) := by decide +kernel
theorem d_Md_norm_1 : decode b_Md_norm 1 = .ok (.iconst 0, 1) := by decide +kernel
theorem d_Md_norm_2 : decode b_Md_norm 2 = .ok (.putfield 406, 3) := by decide +kernel
theorem d_Md_norm_5 : decode b_Md_norm 5 = .ok (.aload_n 0, 1) := by decide +kernel
theorem d_Md_norm_6 : decode b_Md_norm 6 = .ok (.iconst 0, 1) := by decide +kernel
theorem d_Md_norm_7 : decode b_Md_norm 7 = .ok (.putfield 409, 3) := by decide +kernel
theorem d_Md_norm_10 : decode b_Md_norm 10 = .ok (.iconst 0, 1) := by decide +kernel
theorem d_Md_norm_11 : decode b_Md_norm 11 = .ok (.istore_n 1, 1) := by decide +kernel
theorem d_Md_norm_12 : decode b_Md_norm 12 = .ok (.iload_n 1, 1) := by decide +kernel
theorem d_Md_norm_13 : decode b_Md_norm 13 = .ok (.aload_n 0, 1) := by decide +kernel
theorem d_Md_norm_14 : decode b_Md_norm 14 = .ok (.getfield 398, 3) := by decide +kernel
theorem d_Md_norm_17 : decode b_Md_norm 17 = .ok (.if_icmp .ge 19, 3) := by decide +kernel
theorem d_Md_norm_20 : decode b_Md_norm 20 = .ok (.aload_n 0, 1) := by decide +kernel
theorem d_Md_norm_21 : decode b_Md_norm 21 = .ok (.aload_n 0, 1) := by decide +kernel
theorem d_Md_norm_22 : decode b_Md_norm 22 = .ok (.getfield 400, 3) := by decide +kernel
theorem d_Md_norm_25 : decode b_Md_norm 25 = .ok (.iload_n 1, 1) := by decide +kernel
theorem d_Md_norm_26 : decode b_Md_norm 26 = .ok (.iaload, 1) := by decide +kernel
theorem d_Md_norm_27 : decode b_Md_norm 27 = .ok (.invokestatic 416, 3) := by decide +kernel
theorem d_Md_norm_30 : decode b_Md_norm 30 = .ok (.iinc 1 1, 3) := by decide +kernel
theorem d_Md_norm_33 : decode b_Md_norm 33 = .ok (.goto (-21), 3) := by decide +kernel
theorem d_Md_norm_36 : decode b_Md_norm 36 = .ok (.iconst 1, 1) := by decide +kernel
theorem d_Md_norm_37 : decode b_Md_norm 37 = .ok (.istore_n 1, 1) := by decide +kernel
theorem d_Md_norm_38 : decode b_Md_norm 38 = .ok (.iload_n 1, 1) := by decide +kernel
theorem d_Md_norm_39 : decode b_Md_norm 39 = .ok (.ifCond .eq 71, 3) := by decide +kernel
theorem d_Md_norm_42 : decode b_Md_norm 42 = .ok (.iconst 0, 1) := by decide +kernel
theorem d_Md_norm_43 : decode b_Md_norm 43 = .ok (.istore_n 1, 1) := by decide +kernel
theorem d_Md_norm_44 : decode b_Md_norm 44 = .ok (.iconst 1, 1) := by decide +kernel
theorem d_Md_norm_45 : decode b_Md_norm 45 = .ok (.istore_n 2, 1) := by decide +kernel
theorem d_Md_norm_46 : decode b_Md_norm 46 = .ok (.iload_n 2, 1) := by decide +kernel
theorem d_Md_norm_47 : decode b_Md_norm 47 = .ok (.aload_n 0, 1) := by decide +kernel
theorem d_Md_norm_48 : decode b_Md_norm 48 = .ok (.getfield 409, 3) := by decide +kernel
theorem d_Md_norm_51 : decode b_Md_norm 51 = .ok (.if_icmp .ge 56, 3) := by decide +kernel
theorem d_Md_norm_54 : decode b_Md_norm 54 = .ok (.iconst 1, 1) := by decide +kernel
theorem d_Md_norm_55 : decode b_Md_norm 55 = .ok (.istore_n 3, 1) := by decide +kernel
theorem d_Md_norm_56 : decode b_Md_norm 56 = .ok (.iload_n 3, 1) := by decide +kernel
theorem d_Md_norm_57 : decode b_Md_norm 57 = .ok (.aload_n 0, 1) := by decide +kernel
theorem d_Md_norm_58 : decode b_Md_norm 58 = .ok (.getfield 395, 3) := by decide +kernel
theorem d_Md_norm_61 : decode b_Md_norm 61 = .ok (.if_icmp .ge 40, 3) := by decide +kernel
theorem d_Md_norm_64 : decode b_Md_norm 64 = .ok (.aload_n 0, 1) := by decide +kernel
theorem d_Md_norm_65 : decode b_Md_norm 65 = .ok (.iload_n 2, 1) := by decide +kernel
theorem d_Md_norm_66 : decode b_Md_norm 66 = .ok (.iload_n 3, 1) := by decide +kernel
theorem d_Md_norm_67 : decode b_Md_norm 67 = .ok (.invokestatic 419, 3) := by decide +kernel
theorem d_Md_norm_70 : decode b_Md_norm 70 = .ok (.ifCond .eq 25, 3) := by decide +kernel
theorem d_Md_norm_73 : decode b_Md_norm 73 = .ok (.aload_n 0, 1) := by decide +kernel
theorem d_Md_norm_74 : decode b_Md_norm 74 = .ok (.iload_n 2, 1) := by decide +kernel
theorem d_Md_norm_75 : decode b_Md_norm 75 = .ok (.iconst 1, 1) := by decide +kernel
theorem d_Md_norm_76 : decode b_Md_norm 76 = .ok (.isub, 1) := by decide +kernel
theorem d_Md_norm_77 : decode b_Md_norm 77 = .ok (.iload_n 3, 1) := by decide +kernel
theorem d_Md_norm_78 : decode b_Md_norm 78 = .ok (.invokestatic 423, 3) := by decide +kernel
theorem d_Md_norm_81 : decode b_Md_norm 81 = .ok (.ifCond .eq 6, 3) := by decide +kernel
theorem d_Md_norm_84 : decode b_Md_norm 84 = .ok (.goto 11, 3) := by decide +kernel
theorem d_Md_norm_87 : decode b_Md_norm 87 = .ok (.aload_n 0, 1) := by decide +kernel
theorem d_Md_norm_88 : decode b_Md_norm 88 = .ok (.iload_n 2, 1) := by decide +kernel
theorem d_Md_norm_89 : decode b_Md_norm 89 = .ok (.iload_n 3, 1) := by decide +kernel
theorem d_Md_norm_90 : decode b_Md_norm 90 = .ok (.invokestatic 426, 3) := by decide +kernel
theorem d_Md_norm_93 : decode b_Md_norm 93 = .ok (.iconst 1, 1) := by decide +kernel
theorem d_Md_norm_94 : decode b_Md_norm 94 = .ok (.istore_n 1, 1) := by decide +kernel
theorem d_Md_norm_95 : decode b_Md_norm 95 = .ok (.iinc 3 1, 3) := by decide +kernel
theorem d_Md_norm_98 : decode b_Md_norm 98 = .ok (.goto (-42), 3) := by decide +kernel
theorem d_Md_norm_101 : decode b_Md_norm 101 = .ok (.iinc 2 1, 3) := by decide +kernel
theorem d_Md_norm_104 : decode b_Md_norm 104 = .ok (.goto (-58), 3) := by decide +kernel
theorem d_Md_norm_107 : decode b_Md_norm 107 = .ok (.goto (-69), 3) := by decide +kernel
theorem d_Md_norm_110 : decode b_Md_norm 110 = .ok (.aload_n 0, 1) := by decide +kernel
theorem d_Md_norm_111 : decode b_Md_norm 111 = .ok (.getfield 409, 3) := by decide +kernel
theorem d_Md_norm_114 : decode b_Md_norm 114 = .ok (.ifCond .le 68, 3) := by decide +kernel
theorem d_Md_norm_117 : decode b_Md_norm 117 = .ok (.aload_n 0, 1) := by decide +kernel
theorem d_Md_norm_118 : decode b_Md_norm 118 = .ok (.iconst 0, 1) := by decide +kernel
theorem d_Md_norm_119 : decode b_Md_norm 119 = .ok (.invokestatic 430, 3) := by decide +kernel
theorem d_Md_norm_122 : decode b_Md_norm 122 = .ok (.ifCond .eq 60, 3) := by decide +kernel
theorem d_Md_norm_125 : decode b_Md_norm 125 = .ok (.aload_n 0, 1) := by decide +kernel
theorem d_Md_norm_126 : decode b_Md_norm 126 = .ok (.dup, 1) := by decide +kernel
theorem d_Md_norm_127 : decode b_Md_norm 127 = .ok (.getfield 406, 3) := by decide +kernel
theorem d_Md_norm_130 : decode b_Md_norm 130 = .ok (.iconst 1, 1) := by decide +kernel
theorem d_Md_norm_131 : decode b_Md_norm 131 = .ok (.iadd, 1) := by decide +kernel
theorem d_Md_norm_132 : decode b_Md_norm 132 = .ok (.putfield 406, 3) := by decide +kernel
theorem d_Md_norm_135 : decode b_Md_norm 135 = .ok (.aload_n 0, 1) := by decide +kernel
theorem d_Md_norm_136 : decode b_Md_norm 136 = .ok (.dup, 1) := by decide +kernel
theorem d_Md_norm_137 : decode b_Md_norm 137 = .ok (.getfield 409, 3) := by decide +kernel
theorem d_Md_norm_140 : decode b_Md_norm 140 = .ok (.iconst 1, 1) := by decide +kernel
theorem d_Md_norm_141 : decode b_Md_norm 141 = .ok (.isub, 1) := by decide +kernel
theorem d_Md_norm_142 : decode b_Md_norm 142 = .ok (.putfield 409, 3) := by decide +kernel
theorem d_Md_norm_145 : decode b_Md_norm 145 = .ok (.iconst 0, 1) := by decide +kernel
theorem d_Md_norm_146 : decode b_Md_norm 146 = .ok (.istore_n 2, 1) := by decide +kernel
theorem d_Md_norm_147 : decode b_Md_norm 147 = .ok (.iload_n 2, 1) := by decide +kernel
theorem d_Md_norm_148 : decode b_Md_norm 148 = .ok (.bipush 9, 2) := by decide +kernel
theorem d_Md_norm_150 : decode b_Md_norm 150 = .ok (.aload_n 0, 1) := by decide +kernel
theorem d_Md_norm_151 : decode b_Md_norm 151 = .ok (.getfield 409, 3) := by decide +kernel
theorem d_Md_norm_154 : decode b_Md_norm 154 = .ok (.imul, 1) := by decide +kernel
theorem d_Md_norm_155 : decode b_Md_norm 155 = .ok (.if_icmp .ge 24, 3) := by decide +kernel
theorem d_Md_norm_158 : decode b_Md_norm 158 = .ok (.aload_n 0, 1) := by decide +kernel
theorem d_Md_norm_159 : decode b_Md_norm 159 = .ok (.getfield 403, 3) := by decide +kernel
theorem d_Md_norm_162 : decode b_Md_norm 162 = .ok (.iload_n 2, 1) := by decide +kernel
theorem d_Md_norm_163 : decode b_Md_norm 163 = .ok (.aload_n 0, 1) := by decide +kernel
theorem d_Md_norm_164 : decode b_Md_norm 164 = .ok (.getfield 403, 3) := by decide +kernel
theorem d_Md_norm_167 : decode b_Md_norm 167 = .ok (.iload_n 2, 1) := by decide +kernel
theorem d_Md_norm_168 : decode b_Md_norm 168 = .ok (.bipush 9, 2) := by decide +kernel
theorem d_Md_norm_170 : decode b_Md_norm 170 = .ok (.iadd, 1) := by decide +kernel
theorem d_Md_norm_171 : decode b_Md_norm 171 = .ok (.iaload, 1) := by decide +kernel
theorem d_Md_norm_172 : decode b_Md_norm 172 = .ok (.iastore, 1) := by decide +kernel
theorem d_Md_norm_173 : decode b_Md_norm 173 = .ok (.iinc 2 1, 3) := by decide +kernel
theorem d_Md_norm_176 : decode b_Md_norm 176 = .ok (.goto (-29), 3) := by decide +kernel
theorem d_Md_norm_179 : decode b_Md_norm 179 = .ok (.goto (-69), 3) := by decide +kernel
theorem d_Md_norm_182 : decode b_Md_norm 182 = .ok (.aload_n 0, 1) := by decide +kernel
theorem d_Md_norm_183 : decode b_Md_norm 183 = .ok (.getfield 409, 3) := by decide +kernel
theorem d_Md_norm_186 : decode b_Md_norm 186 = .ok (.ifCond .le 29, 3) := by decide +kernel
theorem d_Md_norm_189 : decode b_Md_norm 189 = .ok (.aload_n 0, 1) := by decide +kernel
theorem d_Md_norm_190 : decode b_Md_norm 190 = .ok (.aload_n 0, 1) := by decide +kernel
theorem d_Md_norm_191 : decode b_Md_norm 191 = .ok (.getfield 409, 3) := by decide +kernel
theorem d_Md_norm_194 : decode b_Md_norm 194 = .ok (.iconst 1, 1) := by decide +kernel
theorem d_Md_norm_195 : decode b_Md_norm 195 = .ok (.isub, 1) := by decide +kernel
theorem d_Md_norm_196 : decode b_Md_norm 196 = .ok (.invokestatic 434, 3) := by decide +kernel
theorem d_Md_norm_199 : decode b_Md_norm 199 = .ok (.ifCond .eq 16, 3) := by decide +kernel
theorem d_Md_norm_202 : decode b_Md_norm 202 = .ok (.aload_n 0, 1) := by decide +kernel
theorem d_Md_norm_203 : decode b_Md_norm 203 = .ok (.dup, 1) := by decide +kernel
theorem d_Md_norm_204 : decode b_Md_norm 204 = .ok (.getfield 409, 3) := by decide +kernel
theorem d_Md_norm_207 : decode b_Md_norm 207 = .ok (.iconst 1, 1) := by decide +kernel
theorem d_Md_norm_208 : decode b_Md_norm 208 = .ok (.isub, 1) := by decide +kernel
theorem d_Md_norm_209 : decode b_Md_norm 209 = .ok (.putfield 409, 3) := by decide +kernel
theorem d_Md_norm_212 : decode b_Md_norm 212 = .ok (.goto (-30), 3) := by decide +kernel
theorem d_Md_norm_215 : decode b_Md_norm 215 = .ok (.return_, 1) := by decide +kernel
theorem d_Md_number_0 : decode b_Md_number 0 = .ok (.aload_n 0, 1) := by decide +kernel
theorem d_Md_number_1 : decode b_Md_number 1 = .ok (.getfield 129, 3) := by decide +kernel
theorem d_Md_number_4 : decode b_Md_number 4 = .ok (.iconst 2, 1) := by decide +kernel
theorem d_Md_number_5 : decode b_Md_number 5 = .ok (.if_icmp .eq 9, 3) := by decide +kernel
theorem d_Md_number_8 : decode b_Md_number 8 = .ok (.aload_n 0, 1) := by decide +kernel
theorem d_Md_number_9 : decode b_Md_number 9 = .ok (.invokevirtual 182, 3) := by decide +kernel
theorem d_Md_number_12 : decode b_Md_number 12 = .ok (.lconst 0, 1) := by decide +kernel
theorem d_Md_number_13 : decode b_Md_number 13 = .ok (.lreturn, 1) := by decide +kernel
theorem d_Md_number_14 : decode b_Md_number 14 = .ok (.aload_n 0, 1) := by decide +kernel
theorem d_Md_number_15 : decode b_Md_number 15 = .ok (.iload_n 1, 1) := by decide +kernel
theorem d_Md_number_16 : decode b_Md_number 16 = .ok (.invokevirtual 172, 3) := by decide +kernel
theorem d_Md_number_19 : decode b_Md_number 19 = .ok (.ifCond .eq 14, 3) := by decide +kernel
theorem d_Md_number_22 : decode b_Md_number 22 = .ok (.aload_n 0, 1) := by decide +kernel
theorem d_Md_number_23 : decode b_Md_number 23 = .ok (.iconst 2, 1) := by decide +kernel
theorem d_Md_number_24 : decode b_Md_number 24 = .ok (.aload_n 0, 1) := by decide +kernel
theorem d_Md_number_25 : decode b_Md_number 25 = .ok (.getfield 142, 3) := by decide +kernel
theorem d_Md_number_28 : decode b_Md_number 28 = .ok (.invokevirtual 138, 3) := by decide +kernel
theorem d_Md_number_31 : decode b_Md_number 31 = .ok (.lconst 0, 1) := by decide +kernel
theorem d_Md_number_32 : decode b_Md_number 32 = .ok (.lreturn, 1) := by decide +kernel
theorem d_Md_number_33 : decode b_Md_number 33 = .ok (.aload_n 0, 1) := by decide +kernel
theorem d_Md_number_34 : decode b_Md_number 34 = .ok (.invokevirtual 166, 3) := by decide +kernel
theorem d_Md_number_37 : decode b_Md_number 37 = .ok (.lstore_n 2, 1) := by decide +kernel
theorem d_Md_number_38 : decode b_Md_number 38 = .ok (.aload_n 0, 1) := by decide +kernel
theorem d_Md_number_39 : decode b_Md_number 39 = .ok (.invokevirtual 179, 3) := by decide +kernel
theorem d_Md_number_42 : decode b_Md_number 42 = .ok (.lload_n 2, 1) := by decide +kernel
theorem d_Md_number_43 : decode b_Md_number 43 = .ok (.lreturn, 1) := by decide +kernel
theorem d_Md_pass_0 : decode b_Md_pass 0 = .ok (.iconst 1, 1) := by decide +kernel
theorem d_Md_pass_1 : decode b_Md_pass 1 = .ok (.istore_n 3, 1) := by decide +kernel
theorem d_Md_pass_2 : decode b_Md_pass 2 = .ok (.iload_n 3, 1) := by decide +kernel
theorem d_Md_pass_3 : decode b_Md_pass 3 = .ok (.aload_n 0, 1) := by decide +kernel
theorem d_Md_pass_4 : decode b_Md_pass 4 = .ok (.getfield 395, 3) := by decide +kernel
theorem d_Md_pass_7 : decode b_Md_pass 7 = .ok (.if_icmp .gt 65, 3) := by decide +kernel
theorem d_Md_pass_10 : decode b_Md_pass 10 = .ok (.aload_n 0, 1) := by decide +kernel
theorem d_Md_pass_11 : decode b_Md_pass 11 = .ok (.getfield 403, 3) := by decide +kernel
theorem d_Md_pass_14 : decode b_Md_pass 14 = .ok (.bipush 9, 2) := by decide +kernel
theorem d_Md_pass_16 : decode b_Md_pass 16 = .ok (.iload_n 1, 1) := by decide +kernel
theorem d_Md_pass_17 : decode b_Md_pass 17 = .ok (.imul, 1) := by decide +kernel
theorem d_Md_pass_18 : decode b_Md_pass 18 = .ok (.bipush 9, 2) := by decide +kernel
theorem d_Md_pass_20 : decode b_Md_pass 20 = .ok (.isub, 1) := by decide +kernel
theorem d_Md_pass_21 : decode b_Md_pass 21 = .ok (.iload_n 3, 1) := by decide +kernel
theorem d_Md_pass_22 : decode b_Md_pass 22 = .ok (.iadd, 1) := by decide +kernel
theorem d_Md_pass_23 : decode b_Md_pass 23 = .ok (.iaload, 1) := by decide +kernel
theorem d_Md_pass_24 : decode b_Md_pass 24 = .ok (.istore 4, 2) := by decide +kernel
theorem d_Md_pass_26 : decode b_Md_pass 26 = .ok (.aload_n 0, 1) := by decide +kernel
theorem d_Md_pass_27 : decode b_Md_pass 27 = .ok (.getfield 403, 3) := by decide +kernel
theorem d_Md_pass_30 : decode b_Md_pass 30 = .ok (.bipush 9, 2) := by decide +kernel
theorem d_Md_pass_32 : decode b_Md_pass 32 = .ok (.iload_n 1, 1) := by decide +kernel
theorem d_Md_pass_33 : decode b_Md_pass 33 = .ok (.imul, 1) := by decide +kernel
theorem d_Md_pass_34 : decode b_Md_pass 34 = .ok (.bipush 9, 2) := by decide +kernel
theorem d_Md_pass_36 : decode b_Md_pass 36 = .ok (.isub, 1) := by decide +kernel
theorem d_Md_pass_37 : decode b_Md_pass 37 = .ok (.iload_n 3, 1) := by decide +kernel
theorem d_Md_pass_38 : decode b_Md_pass 38 = .ok (.iadd, 1) := by decide +kernel
theorem d_Md_pass_39 : decode b_Md_pass 39 = .ok (.iload 4, 2) := by decide +kernel
theorem d_Md_pass_41 : decode b_Md_pass 41 = .ok (.iload_n 2, 1) := by decide +kernel
theorem d_Md_pass_42 : decode b_Md_pass 42 = .ok (.if_icmp .ne 9, 3) := by decide +kernel
theorem d_Md_pass_45 : decode b_Md_pass 45 = .ok (.iload_n 2, 1) := by decide +kernel
theorem d_Md_pass_46 : decode b_Md_pass 46 = .ok (.iconst 1, 1) := by decide +kernel
theorem d_Md_pass_47 : decode b_Md_pass 47 = .ok (.iadd, 1) := by decide +kernel
theorem d_Md_pass_48 : decode b_Md_pass 48 = .ok (.goto 17, 3) := by decide +kernel
theorem d_Md_pass_51 : decode b_Md_pass 51 = .ok (.iload 4, 2) := by decide +kernel
theorem d_Md_pass_53 : decode b_Md_pass 53 = .ok (.iload_n 2, 1) := by decide +kernel
