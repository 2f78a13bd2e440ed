theorem d_Md_findPieces_104 : decode b_Md_findPieces 104 = .ok (.iload_n 2, 1) := by decide +kernel
theorem d_Md_findPieces_105 : decode b_Md_findPieces 105 = .ok (.if_icmp .eq 14, 3) := by decide +kernel
theorem d_Md_findPieces_108 : decode b_Md_findPieces 108 = .ok (.aload_n 0, 1) := by decide +kernel
theorem d_Md_findPieces_109 : decode b_Md_findPieces 109 = .ok (.getfield 90, 3) := by decide +kernel
theorem d_Md_findPieces_112 : decode b_Md_findPieces 112 = .ok (.iload 5, 2) := by decide +kernel
theorem d_Md_findPieces_114 : decode b_Md_findPieces 114 = .ok (.iaload, 1) := by decide +kernel
theorem d_Md_findPieces_115 : decode b_Md_findPieces 115 = .ok (.iload_n 3, 1) := by decide +kernel
theorem d_Md_findPieces_116 : decode b_Md_findPieces 116 = .ok (.if_icmp .ne 8, 3) := by decide +kernel
theorem d_Md_findPieces_119 : decode b_Md_findPieces 119 = .ok (.iload 4, 2) := by decide +kernel
theorem d_Md_findPieces_121 : decode b_Md_findPieces 121 = .ok (.goto 10, 3) := by decide +kernel
theorem d_Md_findPieces_124 : decode b_Md_findPieces 124 = .ok (.aload_n 0, 1) := by decide +kernel
theorem d_Md_findPieces_125 : decode b_Md_findPieces 125 = .ok (.getfield 90, 3) := by decide +kernel
theorem d_Md_findPieces_128 : decode b_Md_findPieces 128 = .ok (.iload 5, 2) := by decide +kernel
theorem d_Md_findPieces_130 : decode b_Md_findPieces 130 = .ok (.iaload, 1) := by decide +kernel
theorem d_Md_findPieces_131 : decode b_Md_findPieces 131 = .ok (.iastore, 1) := by decide +kernel
theorem d_Md_findPieces_132 : decode b_Md_findPieces 132 = .ok (.iinc 5 1, 3) := by decide +kernel
theorem d_Md_findPieces_135 : decode b_Md_findPieces 135 = .ok (.goto (-56), 3) := by decide +kernel
theorem d_Md_findPieces_138 : decode b_Md_findPieces 138 = .ok (.iinc 1 1, 3) := by decide +kernel
theorem d_Md_findPieces_141 : decode b_Md_findPieces 141 = .ok (.goto (-113), 3) := by decide +kernel
theorem d_Md_findPieces_144 : decode b_Md_findPieces 144 = .ok (.aload_n 0, 1) := by decide +kernel
theorem d_Md_findPieces_145 : decode b_Md_findPieces 145 = .ok (.iconst 0, 1) := by decide +kernel
theorem d_Md_findPieces_146 : decode b_Md_findPieces 146 = .ok (.putfield 336, 3) := by decide +kernel
theorem d_Md_findPieces_149 : decode b_Md_findPieces 149 = .ok (.iconst 0, 1) := by decide +kernel
theorem d_Md_findPieces_150 : decode b_Md_findPieces 150 = .ok (.istore_n 1, 1) := by decide +kernel
theorem d_Md_findPieces_151 : decode b_Md_findPieces 151 = .ok (.iload_n 1, 1) := by decide +kernel
theorem d_Md_findPieces_152 : decode b_Md_findPieces 152 = .ok (.aload_n 0, 1) := by decide +kernel
theorem d_Md_findPieces_153 : decode b_Md_findPieces 153 = .ok (.getfield 37, 3) := by decide +kernel
theorem d_Md_findPieces_156 : decode b_Md_findPieces 156 = .ok (.getfield 312, 3) := by decide +kernel
theorem d_Md_findPieces_159 : decode b_Md_findPieces 159 = .ok (.if_icmp .ge 33, 3) := by decide +kernel
theorem d_Md_findPieces_162 : decode b_Md_findPieces 162 = .ok (.aload_n 0, 1) := by decide +kernel
theorem d_Md_findPieces_163 : decode b_Md_findPieces 163 = .ok (.dup, 1) := by decide +kernel
theorem d_Md_findPieces_164 : decode b_Md_findPieces 164 = .ok (.getfield 336, 3) := by decide +kernel
theorem d_Md_findPieces_167 : decode b_Md_findPieces 167 = .ok (.aload_n 0, 1) := by decide +kernel
theorem d_Md_findPieces_168 : decode b_Md_findPieces 168 = .ok (.getfield 90, 3) := by decide +kernel
theorem d_Md_findPieces_171 : decode b_Md_findPieces 171 = .ok (.iload_n 1, 1) := by decide +kernel
theorem d_Md_findPieces_172 : decode b_Md_findPieces 172 = .ok (.iaload, 1) := by decide +kernel
theorem d_Md_findPieces_173 : decode b_Md_findPieces 173 = .ok (.iload_n 1, 1) := by decide +kernel
theorem d_Md_findPieces_174 : decode b_Md_findPieces 174 = .ok (.if_icmp .ne 7, 3) := by decide +kernel
theorem d_Md_findPieces_177 : decode b_Md_findPieces 177 = .ok (.iconst 1, 1) := by decide +kernel
theorem d_Md_findPieces_178 : decode b_Md_findPieces 178 = .ok (.goto 4, 3) := by decide +kernel
theorem d_Md_findPieces_181 : decode b_Md_findPieces 181 = .ok (.iconst 0, 1) := by decide +kernel
theorem d_Md_findPieces_182 : decode b_Md_findPieces 182 = .ok (.iadd, 1) := by decide +kernel
theorem d_Md_findPieces_183 : decode b_Md_findPieces 183 = .ok (.putfield 336, 3) := by decide +kernel
theorem d_Md_findPieces_186 : decode b_Md_findPieces 186 = .ok (.iinc 1 1, 3) := by decide +kernel
theorem d_Md_findPieces_189 : decode b_Md_findPieces 189 = .ok (.goto (-38), 3) := by decide +kernel
theorem d_Md_findPieces_192 : decode b_Md_findPieces 192 = .ok (.return_, 1) := by decide +kernel
theorem d_Md_findRounds_0 : decode b_Md_findRounds 0 = .ok (.aload_n 0, 1) := by decide +kernel
theorem d_Md_findRounds_1 : decode b_Md_findRounds 1 = .ok (.iconst 0, 1) := by decide +kernel
theorem d_Md_findRounds_2 : decode b_Md_findRounds 2 = .ok (.putfield 328, 3) := by decide +kernel
theorem d_Md_findRounds_5 : decode b_Md_findRounds 5 = .ok (.iconst 0, 1) := by decide +kernel
theorem d_Md_findRounds_6 : decode b_Md_findRounds 6 = .ok (.istore_n 1, 1) := by decide +kernel
theorem d_Md_findRounds_7 : decode b_Md_findRounds 7 = .ok (.iload_n 1, 1) := by decide +kernel
theorem d_Md_findRounds_8 : decode b_Md_findRounds 8 = .ok (.aload_n 0, 1) := by decide +kernel
theorem d_Md_findRounds_9 : decode b_Md_findRounds 9 = .ok (.getfield 309, 3) := by decide +kernel
theorem d_Md_findRounds_12 : decode b_Md_findRounds 12 = .ok (.if_icmp .ge 16, 3) := by decide +kernel
theorem d_Md_findRounds_15 : decode b_Md_findRounds 15 = .ok (.aload_n 0, 1) := by decide +kernel
theorem d_Md_findRounds_16 : decode b_Md_findRounds 16 = .ok (.getfield 78, 3) := by decide +kernel
theorem d_Md_findRounds_19 : decode b_Md_findRounds 19 = .ok (.iload_n 1, 1) := by decide +kernel
theorem d_Md_findRounds_20 : decode b_Md_findRounds 20 = .ok (.iconst (-1), 1) := by decide +kernel
theorem d_Md_findRounds_21 : decode b_Md_findRounds 21 = .ok (.iastore, 1) := by decide +kernel
theorem d_Md_findRounds_22 : decode b_Md_findRounds 22 = .ok (.iinc 1 1, 3) := by decide +kernel
theorem d_Md_findRounds_25 : decode b_Md_findRounds 25 = .ok (.goto (-18), 3) := by decide +kernel
theorem d_Md_findRounds_28 : decode b_Md_findRounds 28 = .ok (.iconst 0, 1) := by decide +kernel
theorem d_Md_findRounds_29 : decode b_Md_findRounds 29 = .ok (.istore_n 1, 1) := by decide +kernel
theorem d_Md_findRounds_30 : decode b_Md_findRounds 30 = .ok (.iload_n 1, 1) := by decide +kernel
theorem d_Md_findRounds_31 : decode b_Md_findRounds 31 = .ok (.aload_n 0, 1) := by decide +kernel
theorem d_Md_findRounds_32 : decode b_Md_findRounds 32 = .ok (.getfield 309, 3) := by decide +kernel
theorem d_Md_findRounds_35 : decode b_Md_findRounds 35 = .ok (.if_icmp .ge 62, 3) := by decide +kernel
theorem d_Md_findRounds_38 : decode b_Md_findRounds 38 = .ok (.aload_n 0, 1) := by decide +kernel
theorem d_Md_findRounds_39 : decode b_Md_findRounds 39 = .ok (.getfield 78, 3) := by decide +kernel
theorem d_Md_findRounds_42 : decode b_Md_findRounds 42 = .ok (.iload_n 1, 1) := by decide +kernel
theorem d_Md_findRounds_43 : decode b_Md_findRounds 43 = .ok (.iaload, 1) := by decide +kernel
theorem d_Md_findRounds_44 : decode b_Md_findRounds 44 = .ok (.ifCond .lt 6, 3) := by decide +kernel
theorem d_Md_findRounds_47 : decode b_Md_findRounds 47 = .ok (.goto 44, 3) := by decide +kernel
theorem d_Md_findRounds_50 : decode b_Md_findRounds 50 = .ok (.iload_n 1, 1) := by decide +kernel
theorem d_Md_findRounds_51 : decode b_Md_findRounds 51 = .ok (.istore_n 2, 1) := by decide +kernel
theorem d_Md_findRounds_52 : decode b_Md_findRounds 52 = .ok (.aload_n 0, 1) := by decide +kernel
theorem d_Md_findRounds_53 : decode b_Md_findRounds 53 = .ok (.getfield 78, 3) := by decide +kernel
theorem d_Md_findRounds_56 : decode b_Md_findRounds 56 = .ok (.iload_n 2, 1) := by decide +kernel
theorem d_Md_findRounds_57 : decode b_Md_findRounds 57 = .ok (.iaload, 1) := by decide +kernel
theorem d_Md_findRounds_58 : decode b_Md_findRounds 58 = .ok (.ifCond .ge 23, 3) := by decide +kernel
theorem d_Md_findRounds_61 : decode b_Md_findRounds 61 = .ok (.aload_n 0, 1) := by decide +kernel
theorem d_Md_findRounds_62 : decode b_Md_findRounds 62 = .ok (.getfield 78, 3) := by decide +kernel
theorem d_Md_findRounds_65 : decode b_Md_findRounds 65 = .ok (.iload_n 2, 1) := by decide +kernel
theorem d_Md_findRounds_66 : decode b_Md_findRounds 66 = .ok (.aload_n 0, 1) := by decide +kernel
theorem d_Md_findRounds_67 : decode b_Md_findRounds 67 = .ok (.getfield 328, 3) := by decide +kernel
theorem d_Md_findRounds_70 : decode b_Md_findRounds 70 = .ok (.iastore, 1) := by decide +kernel
theorem d_Md_findRounds_71 : decode b_Md_findRounds 71 = .ok (.aload_n 0, 1) := by decide +kernel
theorem d_Md_findRounds_72 : decode b_Md_findRounds 72 = .ok (.getfield 75, 3) := by decide +kernel
theorem d_Md_findRounds_75 : decode b_Md_findRounds 75 = .ok (.iload_n 2, 1) := by decide +kernel
theorem d_Md_findRounds_76 : decode b_Md_findRounds 76 = .ok (.iaload, 1) := by decide +kernel
theorem d_Md_findRounds_77 : decode b_Md_findRounds 77 = .ok (.istore_n 2, 1) := by decide +kernel
theorem d_Md_findRounds_78 : decode b_Md_findRounds 78 = .ok (.goto (-26), 3) := by decide +kernel
theorem d_Md_findRounds_81 : decode b_Md_findRounds 81 = .ok (.aload_n 0, 1) := by decide +kernel
theorem d_Md_findRounds_82 : decode b_Md_findRounds 82 = .ok (.dup, 1) := by decide +kernel
theorem d_Md_findRounds_83 : decode b_Md_findRounds 83 = .ok (.getfield 328, 3) := by decide +kernel
theorem d_Md_findRounds_86 : decode b_Md_findRounds 86 = .ok (.iconst 1, 1) := by decide +kernel
theorem d_Md_findRounds_87 : decode b_Md_findRounds 87 = .ok (.iadd, 1) := by decide +kernel
theorem d_Md_findRounds_88 : decode b_Md_findRounds 88 = .ok (.putfield 328, 3) := by decide +kernel
theorem d_Md_findRounds_91 : decode b_Md_findRounds 91 = .ok (.iinc 1 1, 3) := by decide +kernel
theorem d_Md_findRounds_94 : decode b_Md_findRounds 94 = .ok (.goto (-64), 3) := by decide +kernel
theorem d_Md_findRounds_97 : decode b_Md_findRounds 97 = .ok (.aload_n 0, 1) := by decide +kernel
theorem d_Md_findRounds_98 : decode b_Md_findRounds 98 = .ok (.iconst 0, 1) := by decide +kernel
theorem d_Md_findRounds_99 : decode b_Md_findRounds 99 = .ok (.putfield 331, 3) := by decide +kernel
theorem d_Md_findRounds_102 : decode b_Md_findRounds 102 = .ok (.iconst 0, 1) := by decide +kernel
theorem d_Md_findRounds_103 : decode b_Md_findRounds 103 = .ok (.istore_n 1, 1) := by decide +kernel
theorem d_Md_findRounds_104 : decode b_Md_findRounds 104 = .ok (.iload_n 1, 1) := by decide +kernel
theorem d_Md_findRounds_105 : decode b_Md_findRounds 105 = .ok (.iconst 2, 1) := by decide +kernel
theorem d_Md_findRounds_106 : decode b_Md_findRounds 106 = .ok (.aload_n 0, 1) := by decide +kernel
theorem d_Md_findRounds_107 : decode b_Md_findRounds 107 = .ok (.getfield 309, 3) := by decide +kernel
theorem d_Md_findRounds_110 : decode b_Md_findRounds 110 = .ok (.imul, 1) := by decide +kernel
theorem d_Md_findRounds_111 : decode b_Md_findRounds 111 = .ok (.if_icmp .ge 16, 3) := by decide +kernel
theorem d_Md_findRounds_114 : decode b_Md_findRounds 114 = .ok (.aload_n 0, 1) := by decide +kernel
theorem d_Md_findRounds_115 : decode b_Md_findRounds 115 = .ok (.getfield 84, 3) := by decide +kernel
theorem d_Md_findRounds_118 : decode b_Md_findRounds 118 = .ok (.iload_n 1, 1) := by decide +kernel
theorem d_Md_findRounds_119 : decode b_Md_findRounds 119 = .ok (.iconst (-1), 1) := by decide +kernel
theorem d_Md_findRounds_120 : decode b_Md_findRounds 120 = .ok (.iastore, 1) := by decide +kernel
theorem d_Md_findRounds_121 : decode b_Md_findRounds 121 = .ok (.iinc 1 1, 3) := by decide +kernel
theorem d_Md_findRounds_124 : decode b_Md_findRounds 124 = .ok (.goto (-20), 3) := by decide +kernel
theorem d_Md_findRounds_127 : decode b_Md_findRounds 127 = .ok (.iconst 0, 1) := by decide +kernel
theorem d_Md_findRounds_128 : decode b_Md_findRounds 128 = .ok (.istore_n 1, 1) := by decide +kernel
theorem d_Md_findRounds_129 : decode b_Md_findRounds 129 = .ok (.iload_n 1, 1) := by decide +kernel
theorem d_Md_findRounds_130 : decode b_Md_findRounds 130 = .ok (.iconst 2, 1) := by decide +kernel
theorem d_Md_findRounds_131 : decode b_Md_findRounds 131 = .ok (.aload_n 0, 1) := by decide +kernel
theorem d_Md_findRounds_132 : decode b_Md_findRounds 132 = .ok (.getfield 309, 3) := by decide +kernel
theorem d_Md_findRounds_135 : decode b_Md_findRounds 135 = .ok (.imul, 1) := by decide +kernel
theorem d_Md_findRounds_136 : decode b_Md_findRounds 136 = .ok (.if_icmp .ge 71, 3) := by decide +kernel
theorem d_Md_findRounds_139 : decode b_Md_findRounds 139 = .ok (.aload_n 0, 1) := by decide +kernel
theorem d_Md_findRounds_140 : decode b_Md_findRounds 140 = .ok (.getfield 84, 3) := by decide +kernel
theorem d_Md_findRounds_143 : decode b_Md_findRounds 143 = .ok (.iload_n 1, 1) := by decide +kernel
theorem d_Md_findRounds_144 : decode b_Md_findRounds 144 = .ok (.iaload, 1) := by decide +kernel
theorem d_Md_findRounds_145 : decode b_Md_findRounds 145 = .ok (.ifCond .lt 6, 3) := by decide +kernel
theorem d_Md_findRounds_148 : decode b_Md_findRounds 148 = .ok (.goto 53, 3) := by decide +kernel
theorem d_Md_findRounds_151 : decode b_Md_findRounds 151 = .ok (.aload_n 0, 1) := by decide +kernel
theorem d_Md_findRounds_152 : decode b_Md_findRounds 152 = .ok (.getfield 87, 3) := by decide +kernel
theorem d_Md_findRounds_155 : decode b_Md_findRounds 155 = .ok (.aload_n 0, 1) := by decide +kernel
theorem d_Md_findRounds_156 : decode b_Md_findRounds 156 = .ok (.getfield 331, 3) := by decide +kernel
theorem d_Md_findRounds_159 : decode b_Md_findRounds 159 = .ok (.iload_n 1, 1) := by decide +kernel
theorem d_Md_findRounds_160 : decode b_Md_findRounds 160 = .ok (.iastore, 1) := by decide +kernel
theorem d_Md_findRounds_161 : decode b_Md_findRounds 161 = .ok (.iload_n 1, 1) := by decide +kernel
theorem d_Md_findRounds_162 : decode b_Md_findRounds 162 = .ok (.istore_n 2, 1) := by decide +kernel
theorem d_Md_findRounds_163 : decode b_Md_findRounds 163 = .ok (.aload_n 0, 1) := by decide +kernel
theorem d_Md_findRounds_164 : decode b_Md_findRounds 164 = .ok (.getfield 84, 3) := by decide +kernel
theorem d_Md_findRounds_167 : decode b_Md_findRounds 167 = .ok (.iload_n 2, 1) := by decide +kernel
theorem d_Md_findRounds_168 : decode b_Md_findRounds 168 = .ok (.iaload, 1) := by decide +kernel
theorem d_Md_findRounds_169 : decode b_Md_findRounds 169 = .ok (.ifCond .ge 22, 3) := by decide +kernel
theorem d_Md_findRounds_172 : decode b_Md_findRounds 172 = .ok (.aload_n 0, 1) := by decide +kernel
theorem d_Md_findRounds_173 : decode b_Md_findRounds 173 = .ok (.getfield 84, 3) := by decide +kernel
theorem d_Md_findRounds_176 : decode b_Md_findRounds 176 = .ok (.iload_n 2, 1) := by decide +kernel
theorem d_Md_findRounds_177 : decode b_Md_findRounds 177 = .ok (.aload_n 0, 1) := by decide +kernel
theorem d_Md_findRounds_178 : decode b_Md_findRounds 178 = .ok (.getfield 331, 3) := by decide +kernel
theorem d_Md_findRounds_181 : decode b_Md_findRounds 181 = .ok (.iastore, 1) := by decide +kernel
theorem d_Md_findRounds_182 : decode b_Md_findRounds 182 = .ok (.aload_n 0, 1) := by decide +kernel
theorem d_Md_findRounds_183 : decode b_Md_findRounds 183 = .ok (.iload_n 2, 1) := by decide +kernel
theorem d_Md_findRounds_184 : decode b_Md_findRounds 184 = .ok (.invokevirtual 333, 3) := by decide +kernel
theorem d_Md_findRounds_187 : decode b_Md_findRounds 187 = .ok (.istore_n 2, 1) := by decide +kernel
theorem d_Md_findRounds_188 : decode b_Md_findRounds 188 = .ok (.goto (-25), 3) := by decide +kernel
theorem d_Md_findRounds_191 : decode b_Md_findRounds 191 = .ok (.aload_n 0, 1) := by decide +kernel
theorem d_Md_findRounds_192 : decode b_Md_findRounds 192 = .ok (.dup, 1) := by decide +kernel
theorem d_Md_findRounds_193 : decode b_Md_findRounds 193 = .ok (.getfield 331, 3) := by decide +kernel
theorem d_Md_findRounds_196 : decode b_Md_findRounds 196 = .ok (.iconst 1, 1) := by decide +kernel
theorem d_Md_findRounds_197 : decode b_Md_findRounds 197 = .ok (.iadd, 1) := by decide +kernel
theorem d_Md_findRounds_198 : decode b_Md_findRounds 198 = .ok (.putfield 331, 3) := by decide +kernel
theorem d_Md_findRounds_201 : decode b_Md_findRounds 201 = .ok (.iinc 1 1, 3) := by decide +kernel
theorem d_Md_findRounds_204 : decode b_Md_findRounds 204 = .ok (.goto (-75), 3) := by decide +kernel
theorem d_Md_findRounds_207 : decode b_Md_findRounds 207 = .ok (.return_, 1) := by decide +kernel
theorem d_Md_form_0 : decode b_Md_form 0 = .ok (.iload_n 1, 1) := by decide +kernel
theorem d_Md_form_1 : decode b_Md_form 1 = .ok (.ifCond .eq 10, 3) := by decide +kernel
theorem d_Md_form_4 : decode b_Md_form 4 = .ok (.aload_n 0, 1) := by decide +kernel
theorem d_Md_form_5 : decode b_Md_form 5 = .ok (.getfield 54, 3) := by decide +kernel
theorem d_Md_form_8 : decode b_Md_form 8 = .ok (.goto 7, 3) := by decide +kernel
theorem d_Md_form_11 : decode b_Md_form 11 = .ok (.aload_n 0, 1) := by decide +kernel
theorem d_Md_form_12 : decode b_Md_form 12 = .ok (.getfield 50, 3) := by decide +kernel
theorem d_Md_form_15 : decode b_Md_form 15 = .ok (.astore 4, 2) := by decide +kernel
theorem d_Md_form_17 : decode b_Md_form 17 = .ok (.aload 4, 2) := by decide +kernel
theorem d_Md_form_19 : decode b_Md_form 19 = .ok (.invokestatic 437, 3) := by decide +kernel
theorem d_Md_form_22 : decode b_Md_form 22 = .ok (.iload_n 2, 1) := by decide +kernel
theorem d_Md_form_23 : decode b_Md_form 23 = .ok (.ifCond .ne 9, 3) := by decide +kernel
theorem d_Md_form_26 : decode b_Md_form 26 = .ok (.aload 4, 2) := by decide +kernel
theorem d_Md_form_28 : decode b_Md_form 28 = .ok (.getfield 406, 3) := by decide +kernel
theorem d_Md_form_31 : decode b_Md_form 31 = .ok (.ireturn, 1) := by decide +kernel
theorem d_Md_form_32 : decode b_Md_form 32 = .ok (.iload_n 2, 1) := by decide +kernel
theorem d_Md_form_33 : decode b_Md_form 33 = .ok (.iconst 1, 1) := by decide +kernel
theorem d_Md_form_34 : decode b_Md_form 34 = .ok (.if_icmp .lt 26, 3) := by decide +kernel
theorem d_Md_form_37 : decode b_Md_form 37 = .ok (.iload_n 2, 1) := by decide +kernel
theorem d_Md_form_38 : decode b_Md_form 38 = .ok (.aload 4, 2) := by decide +kernel
theorem d_Md_form_40 : decode b_Md_form 40 = .ok (.getfield 409, 3) := by decide +kernel
theorem d_Md_form_43 : decode b_Md_form 43 = .ok (.if_icmp .gt 17, 3) := by decide +kernel
theorem d_Md_form_46 : decode b_Md_form 46 = .ok (.iload_n 3, 1) := by decide +kernel
theorem d_Md_form_47 : decode b_Md_form 47 = .ok (.iconst 1, 1) := by decide +kernel
theorem d_Md_form_48 : decode b_Md_form 48 = .ok (.if_icmp .lt 12, 3) := by decide +kernel
theorem d_Md_form_51 : decode b_Md_form 51 = .ok (.iload_n 3, 1) := by decide +kernel
theorem d_Md_form_52 : decode b_Md_form 52 = .ok (.aload 4, 2) := by decide +kernel
theorem d_Md_form_54 : decode b_Md_form 54 = .ok (.getfield 395, 3) := by decide +kernel
theorem d_Md_form_57 : decode b_Md_form 57 = .ok (.if_icmp .le 7, 3) := by decide +kernel
theorem d_Md_form_60 : decode b_Md_form 60 = .ok (.iconst 0, 1) := by decide +kernel
theorem d_Md_form_61 : decode b_Md_form 61 = .ok (.goto 18, 3) := by decide +kernel
theorem d_Md_form_64 : decode b_Md_form 64 = .ok (.aload 4, 2) := by decide +kernel
theorem d_Md_form_66 : decode b_Md_form 66 = .ok (.getfield 403, 3) := by decide +kernel
theorem d_Md_form_69 : decode b_Md_form 69 = .ok (.bipush 9, 2) := by decide +kernel
