theorem d_Md_findMatrix_160 : decode b_Md_findMatrix 160 = .ok (.imul, 1) := by decide +kernel
theorem d_Md_findMatrix_161 : decode b_Md_findMatrix 161 = .ok (.iload 4, 2) := by decide +kernel
theorem d_Md_findMatrix_163 : decode b_Md_findMatrix 163 = .ok (.iadd, 1) := by decide +kernel
theorem d_Md_findMatrix_164 : decode b_Md_findMatrix 164 = .ok (.dup2, 1) := by decide +kernel
theorem d_Md_findMatrix_165 : decode b_Md_findMatrix 165 = .ok (.laload, 1) := by decide +kernel
theorem d_Md_findMatrix_166 : decode b_Md_findMatrix 166 = .ok (.lconst 1, 1) := by decide +kernel
theorem d_Md_findMatrix_167 : decode b_Md_findMatrix 167 = .ok (.ladd, 1) := by decide +kernel
theorem d_Md_findMatrix_168 : decode b_Md_findMatrix 168 = .ok (.lastore, 1) := by decide +kernel
theorem d_Md_findMatrix_169 : decode b_Md_findMatrix 169 = .ok (.aload_n 0, 1) := by decide +kernel
theorem d_Md_findMatrix_170 : decode b_Md_findMatrix 170 = .ok (.getfield 114, 3) := by decide +kernel
theorem d_Md_findMatrix_173 : decode b_Md_findMatrix 173 = .ok (.bipush 20, 2) := by decide +kernel
theorem d_Md_findMatrix_175 : decode b_Md_findMatrix 175 = .ok (.iload_n 1, 1) := by decide +kernel
theorem d_Md_findMatrix_176 : decode b_Md_findMatrix 176 = .ok (.imul, 1) := by decide +kernel
theorem d_Md_findMatrix_177 : decode b_Md_findMatrix 177 = .ok (.iload 4, 2) := by decide +kernel
theorem d_Md_findMatrix_179 : decode b_Md_findMatrix 179 = .ok (.iadd, 1) := by decide +kernel
theorem d_Md_findMatrix_180 : decode b_Md_findMatrix 180 = .ok (.dup2, 1) := by decide +kernel
theorem d_Md_findMatrix_181 : decode b_Md_findMatrix 181 = .ok (.laload, 1) := by decide +kernel
theorem d_Md_findMatrix_182 : decode b_Md_findMatrix 182 = .ok (.lconst 1, 1) := by decide +kernel
theorem d_Md_findMatrix_183 : decode b_Md_findMatrix 183 = .ok (.lsub, 1) := by decide +kernel
theorem d_Md_findMatrix_184 : decode b_Md_findMatrix 184 = .ok (.lastore, 1) := by decide +kernel
theorem d_Md_findMatrix_185 : decode b_Md_findMatrix 185 = .ok (.iinc 1 1, 3) := by decide +kernel
theorem d_Md_findMatrix_188 : decode b_Md_findMatrix 188 = .ok (.goto (-157), 3) := by decide +kernel
theorem d_Md_findMatrix_191 : decode b_Md_findMatrix 191 = .ok (.return_, 1) := by decide +kernel
theorem d_Md_findMinors_0 : decode b_Md_findMinors 0 = .ok (.iconst 0, 1) := by decide +kernel
theorem d_Md_findMinors_1 : decode b_Md_findMinors 1 = .ok (.istore_n 3, 1) := by decide +kernel
theorem d_Md_findMinors_2 : decode b_Md_findMinors 2 = .ok (.iload_n 3, 1) := by decide +kernel
theorem d_Md_findMinors_3 : decode b_Md_findMinors 3 = .ok (.bipush 12, 2) := by decide +kernel
theorem d_Md_findMinors_5 : decode b_Md_findMinors 5 = .ok (.if_icmp .ge 24, 3) := by decide +kernel
theorem d_Md_findMinors_8 : decode b_Md_findMinors 8 = .ok (.aload_n 0, 1) := by decide +kernel
theorem d_Md_findMinors_9 : decode b_Md_findMinors 9 = .ok (.getfield 117, 3) := by decide +kernel
theorem d_Md_findMinors_12 : decode b_Md_findMinors 12 = .ok (.iload_n 3, 1) := by decide +kernel
theorem d_Md_findMinors_13 : decode b_Md_findMinors 13 = .ok (.iload_n 3, 1) := by decide +kernel
theorem d_Md_findMinors_14 : decode b_Md_findMinors 14 = .ok (.ifCond .ne 7, 3) := by decide +kernel
theorem d_Md_findMinors_17 : decode b_Md_findMinors 17 = .ok (.lconst 1, 1) := by decide +kernel
theorem d_Md_findMinors_18 : decode b_Md_findMinors 18 = .ok (.goto 4, 3) := by decide +kernel
theorem d_Md_findMinors_21 : decode b_Md_findMinors 21 = .ok (.lconst 0, 1) := by decide +kernel
theorem d_Md_findMinors_22 : decode b_Md_findMinors 22 = .ok (.lastore, 1) := by decide +kernel
theorem d_Md_findMinors_23 : decode b_Md_findMinors 23 = .ok (.iinc 3 1, 3) := by decide +kernel
theorem d_Md_findMinors_26 : decode b_Md_findMinors 26 = .ok (.goto (-24), 3) := by decide +kernel
theorem d_Md_findMinors_29 : decode b_Md_findMinors 29 = .ok (.iconst 1, 1) := by decide +kernel
theorem d_Md_findMinors_30 : decode b_Md_findMinors 30 = .ok (.istore_n 3, 1) := by decide +kernel
theorem d_Md_findMinors_31 : decode b_Md_findMinors 31 = .ok (.iload_n 3, 1) := by decide +kernel
theorem d_Md_findMinors_32 : decode b_Md_findMinors 32 = .ok (.iconst 1, 1) := by decide +kernel
theorem d_Md_findMinors_33 : decode b_Md_findMinors 33 = .ok (.iload_n 2, 1) := by decide +kernel
theorem d_Md_findMinors_34 : decode b_Md_findMinors 34 = .ok (.ishl, 1) := by decide +kernel
theorem d_Md_findMinors_35 : decode b_Md_findMinors 35 = .ok (.if_icmp .ge 172, 3) := by decide +kernel
theorem d_Md_findMinors_38 : decode b_Md_findMinors 38 = .ok (.iconst 0, 1) := by decide +kernel
theorem d_Md_findMinors_39 : decode b_Md_findMinors 39 = .ok (.istore 4, 2) := by decide +kernel
theorem d_Md_findMinors_41 : decode b_Md_findMinors 41 = .ok (.iconst 0, 1) := by decide +kernel
theorem d_Md_findMinors_42 : decode b_Md_findMinors 42 = .ok (.istore 5, 2) := by decide +kernel
theorem d_Md_findMinors_44 : decode b_Md_findMinors 44 = .ok (.iload 5, 2) := by decide +kernel
theorem d_Md_findMinors_46 : decode b_Md_findMinors 46 = .ok (.iload_n 2, 1) := by decide +kernel
theorem d_Md_findMinors_47 : decode b_Md_findMinors 47 = .ok (.if_icmp .ge 20, 3) := by decide +kernel
theorem d_Md_findMinors_50 : decode b_Md_findMinors 50 = .ok (.iload 4, 2) := by decide +kernel
theorem d_Md_findMinors_52 : decode b_Md_findMinors 52 = .ok (.iload_n 3, 1) := by decide +kernel
theorem d_Md_findMinors_53 : decode b_Md_findMinors 53 = .ok (.iload 5, 2) := by decide +kernel
theorem d_Md_findMinors_55 : decode b_Md_findMinors 55 = .ok (.ishr, 1) := by decide +kernel
theorem d_Md_findMinors_56 : decode b_Md_findMinors 56 = .ok (.iconst 1, 1) := by decide +kernel
theorem d_Md_findMinors_57 : decode b_Md_findMinors 57 = .ok (.iand, 1) := by decide +kernel
theorem d_Md_findMinors_58 : decode b_Md_findMinors 58 = .ok (.iadd, 1) := by decide +kernel
theorem d_Md_findMinors_59 : decode b_Md_findMinors 59 = .ok (.istore 4, 2) := by decide +kernel
theorem d_Md_findMinors_61 : decode b_Md_findMinors 61 = .ok (.iinc 5 1, 3) := by decide +kernel
theorem d_Md_findMinors_64 : decode b_Md_findMinors 64 = .ok (.goto (-20), 3) := by decide +kernel
theorem d_Md_findMinors_67 : decode b_Md_findMinors 67 = .ok (.iconst 0, 1) := by decide +kernel
theorem d_Md_findMinors_68 : decode b_Md_findMinors 68 = .ok (.istore 5, 2) := by decide +kernel
theorem d_Md_findMinors_70 : decode b_Md_findMinors 70 = .ok (.iload 5, 2) := by decide +kernel
theorem d_Md_findMinors_72 : decode b_Md_findMinors 72 = .ok (.bipush 12, 2) := by decide +kernel
theorem d_Md_findMinors_74 : decode b_Md_findMinors 74 = .ok (.if_icmp .ge 22, 3) := by decide +kernel
theorem d_Md_findMinors_77 : decode b_Md_findMinors 77 = .ok (.aload_n 0, 1) := by decide +kernel
theorem d_Md_findMinors_78 : decode b_Md_findMinors 78 = .ok (.getfield 117, 3) := by decide +kernel
theorem d_Md_findMinors_81 : decode b_Md_findMinors 81 = .ok (.bipush 12, 2) := by decide +kernel
theorem d_Md_findMinors_83 : decode b_Md_findMinors 83 = .ok (.iload_n 3, 1) := by decide +kernel
theorem d_Md_findMinors_84 : decode b_Md_findMinors 84 = .ok (.imul, 1) := by decide +kernel
theorem d_Md_findMinors_85 : decode b_Md_findMinors 85 = .ok (.iload 5, 2) := by decide +kernel
theorem d_Md_findMinors_87 : decode b_Md_findMinors 87 = .ok (.iadd, 1) := by decide +kernel
theorem d_Md_findMinors_88 : decode b_Md_findMinors 88 = .ok (.lconst 0, 1) := by decide +kernel
theorem d_Md_findMinors_89 : decode b_Md_findMinors 89 = .ok (.lastore, 1) := by decide +kernel
theorem d_Md_findMinors_90 : decode b_Md_findMinors 90 = .ok (.iinc 5 1, 3) := by decide +kernel
theorem d_Md_findMinors_93 : decode b_Md_findMinors 93 = .ok (.goto (-23), 3) := by decide +kernel
theorem d_Md_findMinors_96 : decode b_Md_findMinors 96 = .ok (.iload_n 1, 1) := by decide +kernel
theorem d_Md_findMinors_97 : decode b_Md_findMinors 97 = .ok (.ifCond .lt 16, 3) := by decide +kernel
theorem d_Md_findMinors_100 : decode b_Md_findMinors 100 = .ok (.iload 4, 2) := by decide +kernel
theorem d_Md_findMinors_102 : decode b_Md_findMinors 102 = .ok (.iconst 1, 1) := by decide +kernel
theorem d_Md_findMinors_103 : decode b_Md_findMinors 103 = .ok (.isub, 1) := by decide +kernel
theorem d_Md_findMinors_104 : decode b_Md_findMinors 104 = .ok (.iload_n 1, 1) := by decide +kernel
theorem d_Md_findMinors_105 : decode b_Md_findMinors 105 = .ok (.if_icmp .lt 8, 3) := by decide +kernel
theorem d_Md_findMinors_108 : decode b_Md_findMinors 108 = .ok (.iload 4, 2) := by decide +kernel
theorem d_Md_findMinors_110 : decode b_Md_findMinors 110 = .ok (.goto 7, 3) := by decide +kernel
theorem d_Md_findMinors_113 : decode b_Md_findMinors 113 = .ok (.iload 4, 2) := by decide +kernel
theorem d_Md_findMinors_115 : decode b_Md_findMinors 115 = .ok (.iconst 1, 1) := by decide +kernel
theorem d_Md_findMinors_116 : decode b_Md_findMinors 116 = .ok (.isub, 1) := by decide +kernel
theorem d_Md_findMinors_117 : decode b_Md_findMinors 117 = .ok (.istore 5, 2) := by decide +kernel
theorem d_Md_findMinors_119 : decode b_Md_findMinors 119 = .ok (.iload 5, 2) := by decide +kernel
theorem d_Md_findMinors_121 : decode b_Md_findMinors 121 = .ok (.aload_n 0, 1) := by decide +kernel
theorem d_Md_findMinors_122 : decode b_Md_findMinors 122 = .ok (.getfield 37, 3) := by decide +kernel
theorem d_Md_findMinors_125 : decode b_Md_findMinors 125 = .ok (.getfield 312, 3) := by decide +kernel
theorem d_Md_findMinors_128 : decode b_Md_findMinors 128 = .ok (.if_icmp .lt 6, 3) := by decide +kernel
theorem d_Md_findMinors_131 : decode b_Md_findMinors 131 = .ok (.goto 70, 3) := by decide +kernel
theorem d_Md_findMinors_134 : decode b_Md_findMinors 134 = .ok (.iconst 0, 1) := by decide +kernel
theorem d_Md_findMinors_135 : decode b_Md_findMinors 135 = .ok (.istore 6, 2) := by decide +kernel
theorem d_Md_findMinors_137 : decode b_Md_findMinors 137 = .ok (.iload_n 2, 1) := by decide +kernel
theorem d_Md_findMinors_138 : decode b_Md_findMinors 138 = .ok (.iconst 1, 1) := by decide +kernel
theorem d_Md_findMinors_139 : decode b_Md_findMinors 139 = .ok (.isub, 1) := by decide +kernel
theorem d_Md_findMinors_140 : decode b_Md_findMinors 140 = .ok (.istore 7, 2) := by decide +kernel
theorem d_Md_findMinors_142 : decode b_Md_findMinors 142 = .ok (.iload 7, 2) := by decide +kernel
theorem d_Md_findMinors_144 : decode b_Md_findMinors 144 = .ok (.ifCond .lt 57, 3) := by decide +kernel
theorem d_Md_findMinors_147 : decode b_Md_findMinors 147 = .ok (.iload_n 3, 1) := by decide +kernel
theorem d_Md_findMinors_148 : decode b_Md_findMinors 148 = .ok (.iload 7, 2) := by decide +kernel
theorem d_Md_findMinors_150 : decode b_Md_findMinors 150 = .ok (.ishr, 1) := by decide +kernel
theorem d_Md_findMinors_151 : decode b_Md_findMinors 151 = .ok (.iconst 1, 1) := by decide +kernel
theorem d_Md_findMinors_152 : decode b_Md_findMinors 152 = .ok (.iand, 1) := by decide +kernel
theorem d_Md_findMinors_153 : decode b_Md_findMinors 153 = .ok (.ifCond .ne 6, 3) := by decide +kernel
theorem d_Md_findMinors_156 : decode b_Md_findMinors 156 = .ok (.goto 39, 3) := by decide +kernel
theorem d_Md_findMinors_159 : decode b_Md_findMinors 159 = .ok (.aload_n 0, 1) := by decide +kernel
theorem d_Md_findMinors_160 : decode b_Md_findMinors 160 = .ok (.iload_n 3, 1) := by decide +kernel
theorem d_Md_findMinors_161 : decode b_Md_findMinors 161 = .ok (.iload_n 3, 1) := by decide +kernel
theorem d_Md_findMinors_162 : decode b_Md_findMinors 162 = .ok (.iconst 1, 1) := by decide +kernel
theorem d_Md_findMinors_163 : decode b_Md_findMinors 163 = .ok (.iload 7, 2) := by decide +kernel
theorem d_Md_findMinors_165 : decode b_Md_findMinors 165 = .ok (.ishl, 1) := by decide +kernel
theorem d_Md_findMinors_166 : decode b_Md_findMinors 166 = .ok (.ixor, 1) := by decide +kernel
theorem d_Md_findMinors_167 : decode b_Md_findMinors 167 = .ok (.iload 6, 2) := by decide +kernel
theorem d_Md_findMinors_169 : decode b_Md_findMinors 169 = .ok (.iconst 2, 1) := by decide +kernel
theorem d_Md_findMinors_170 : decode b_Md_findMinors 170 = .ok (.irem, 1) := by decide +kernel
theorem d_Md_findMinors_171 : decode b_Md_findMinors 171 = .ok (.ifCond .ne 7, 3) := by decide +kernel
theorem d_Md_findMinors_174 : decode b_Md_findMinors 174 = .ok (.lconst 1, 1) := by decide +kernel
theorem d_Md_findMinors_175 : decode b_Md_findMinors 175 = .ok (.goto 6, 3) := by decide +kernel
theorem d_Md_findMinors_178 : decode b_Md_findMinors 178 = .ok (.ldc2_w 196, 3) := by decide +kernel
theorem d_Md_findMinors_181 : decode b_Md_findMinors 181 = .ok (.bipush 20, 2) := by decide +kernel
theorem d_Md_findMinors_183 : decode b_Md_findMinors 183 = .ok (.iload 5, 2) := by decide +kernel
theorem d_Md_findMinors_185 : decode b_Md_findMinors 185 = .ok (.imul, 1) := by decide +kernel
theorem d_Md_findMinors_186 : decode b_Md_findMinors 186 = .ok (.iload 7, 2) := by decide +kernel
theorem d_Md_findMinors_188 : decode b_Md_findMinors 188 = .ok (.iadd, 1) := by decide +kernel
theorem d_Md_findMinors_189 : decode b_Md_findMinors 189 = .ok (.invokevirtual 462, 3) := by decide +kernel
theorem d_Md_findMinors_192 : decode b_Md_findMinors 192 = .ok (.iinc 6 1, 3) := by decide +kernel
theorem d_Md_findMinors_195 : decode b_Md_findMinors 195 = .ok (.iinc 7 (-1), 3) := by decide +kernel
theorem d_Md_findMinors_198 : decode b_Md_findMinors 198 = .ok (.goto (-56), 3) := by decide +kernel
theorem d_Md_findMinors_201 : decode b_Md_findMinors 201 = .ok (.iinc 3 1, 3) := by decide +kernel
theorem d_Md_findMinors_204 : decode b_Md_findMinors 204 = .ok (.goto (-173), 3) := by decide +kernel
theorem d_Md_findMinors_207 : decode b_Md_findMinors 207 = .ok (.return_, 1) := by decide +kernel
theorem d_Md_findPieces_0 : decode b_Md_findPieces 0 = .ok (.iconst 0, 1) := by decide +kernel
theorem d_Md_findPieces_1 : decode b_Md_findPieces 1 = .ok (.istore_n 1, 1) := by decide +kernel
theorem d_Md_findPieces_2 : decode b_Md_findPieces 2 = .ok (.iload_n 1, 1) := by decide +kernel
theorem d_Md_findPieces_3 : decode b_Md_findPieces 3 = .ok (.aload_n 0, 1) := by decide +kernel
theorem d_Md_findPieces_4 : decode b_Md_findPieces 4 = .ok (.getfield 37, 3) := by decide +kernel
theorem d_Md_findPieces_7 : decode b_Md_findPieces 7 = .ok (.getfield 312, 3) := by decide +kernel
theorem d_Md_findPieces_10 : decode b_Md_findPieces 10 = .ok (.if_icmp .ge 16, 3) := by decide +kernel
theorem d_Md_findPieces_13 : decode b_Md_findPieces 13 = .ok (.aload_n 0, 1) := by decide +kernel
theorem d_Md_findPieces_14 : decode b_Md_findPieces 14 = .ok (.getfield 90, 3) := by decide +kernel
theorem d_Md_findPieces_17 : decode b_Md_findPieces 17 = .ok (.iload_n 1, 1) := by decide +kernel
theorem d_Md_findPieces_18 : decode b_Md_findPieces 18 = .ok (.iload_n 1, 1) := by decide +kernel
theorem d_Md_findPieces_19 : decode b_Md_findPieces 19 = .ok (.iastore, 1) := by decide +kernel
theorem d_Md_findPieces_20 : decode b_Md_findPieces 20 = .ok (.iinc 1 1, 3) := by decide +kernel
theorem d_Md_findPieces_23 : decode b_Md_findPieces 23 = .ok (.goto (-21), 3) := by decide +kernel
theorem d_Md_findPieces_26 : decode b_Md_findPieces 26 = .ok (.iconst 0, 1) := by decide +kernel
theorem d_Md_findPieces_27 : decode b_Md_findPieces 27 = .ok (.istore_n 1, 1) := by decide +kernel
theorem d_Md_findPieces_28 : decode b_Md_findPieces 28 = .ok (.iload_n 1, 1) := by decide +kernel
theorem d_Md_findPieces_29 : decode b_Md_findPieces 29 = .ok (.aload_n 0, 1) := by decide +kernel
theorem d_Md_findPieces_30 : decode b_Md_findPieces 30 = .ok (.getfield 309, 3) := by decide +kernel
theorem d_Md_findPieces_33 : decode b_Md_findPieces 33 = .ok (.if_icmp .ge 111, 3) := by decide +kernel
theorem d_Md_findPieces_36 : decode b_Md_findPieces 36 = .ok (.aload_n 0, 1) := by decide +kernel
theorem d_Md_findPieces_37 : decode b_Md_findPieces 37 = .ok (.getfield 90, 3) := by decide +kernel
theorem d_Md_findPieces_40 : decode b_Md_findPieces 40 = .ok (.aload_n 0, 1) := by decide +kernel
theorem d_Md_findPieces_41 : decode b_Md_findPieces 41 = .ok (.getfield 69, 3) := by decide +kernel
theorem d_Md_findPieces_44 : decode b_Md_findPieces 44 = .ok (.iload_n 1, 1) := by decide +kernel
theorem d_Md_findPieces_45 : decode b_Md_findPieces 45 = .ok (.iaload, 1) := by decide +kernel
theorem d_Md_findPieces_46 : decode b_Md_findPieces 46 = .ok (.iconst 2, 1) := by decide +kernel
theorem d_Md_findPieces_47 : decode b_Md_findPieces 47 = .ok (.ishr, 1) := by decide +kernel
theorem d_Md_findPieces_48 : decode b_Md_findPieces 48 = .ok (.iaload, 1) := by decide +kernel
theorem d_Md_findPieces_49 : decode b_Md_findPieces 49 = .ok (.istore_n 2, 1) := by decide +kernel
theorem d_Md_findPieces_50 : decode b_Md_findPieces 50 = .ok (.aload_n 0, 1) := by decide +kernel
theorem d_Md_findPieces_51 : decode b_Md_findPieces 51 = .ok (.getfield 90, 3) := by decide +kernel
theorem d_Md_findPieces_54 : decode b_Md_findPieces 54 = .ok (.aload_n 0, 1) := by decide +kernel
theorem d_Md_findPieces_55 : decode b_Md_findPieces 55 = .ok (.getfield 72, 3) := by decide +kernel
theorem d_Md_findPieces_58 : decode b_Md_findPieces 58 = .ok (.iload_n 1, 1) := by decide +kernel
theorem d_Md_findPieces_59 : decode b_Md_findPieces 59 = .ok (.iaload, 1) := by decide +kernel
theorem d_Md_findPieces_60 : decode b_Md_findPieces 60 = .ok (.iconst 2, 1) := by decide +kernel
theorem d_Md_findPieces_61 : decode b_Md_findPieces 61 = .ok (.ishr, 1) := by decide +kernel
theorem d_Md_findPieces_62 : decode b_Md_findPieces 62 = .ok (.iaload, 1) := by decide +kernel
theorem d_Md_findPieces_63 : decode b_Md_findPieces 63 = .ok (.istore_n 3, 1) := by decide +kernel
theorem d_Md_findPieces_64 : decode b_Md_findPieces 64 = .ok (.iload_n 2, 1) := by decide +kernel
theorem d_Md_findPieces_65 : decode b_Md_findPieces 65 = .ok (.iload_n 3, 1) := by decide +kernel
theorem d_Md_findPieces_66 : decode b_Md_findPieces 66 = .ok (.if_icmp .ge 7, 3) := by decide +kernel
theorem d_Md_findPieces_69 : decode b_Md_findPieces 69 = .ok (.iload_n 2, 1) := by decide +kernel
theorem d_Md_findPieces_70 : decode b_Md_findPieces 70 = .ok (.goto 4, 3) := by decide +kernel
theorem d_Md_findPieces_73 : decode b_Md_findPieces 73 = .ok (.iload_n 3, 1) := by decide +kernel
theorem d_Md_findPieces_74 : decode b_Md_findPieces 74 = .ok (.istore 4, 2) := by decide +kernel
theorem d_Md_findPieces_76 : decode b_Md_findPieces 76 = .ok (.iconst 0, 1) := by decide +kernel
theorem d_Md_findPieces_77 : decode b_Md_findPieces 77 = .ok (.istore 5, 2) := by decide +kernel
theorem d_Md_findPieces_79 : decode b_Md_findPieces 79 = .ok (.iload 5, 2) := by decide +kernel
theorem d_Md_findPieces_81 : decode b_Md_findPieces 81 = .ok (.aload_n 0, 1) := by decide +kernel
theorem d_Md_findPieces_82 : decode b_Md_findPieces 82 = .ok (.getfield 37, 3) := by decide +kernel
theorem d_Md_findPieces_85 : decode b_Md_findPieces 85 = .ok (.getfield 312, 3) := by decide +kernel
theorem d_Md_findPieces_88 : decode b_Md_findPieces 88 = .ok (.if_icmp .ge 50, 3) := by decide +kernel
theorem d_Md_findPieces_91 : decode b_Md_findPieces 91 = .ok (.aload_n 0, 1) := by decide +kernel
theorem d_Md_findPieces_92 : decode b_Md_findPieces 92 = .ok (.getfield 90, 3) := by decide +kernel
theorem d_Md_findPieces_95 : decode b_Md_findPieces 95 = .ok (.iload 5, 2) := by decide +kernel
theorem d_Md_findPieces_97 : decode b_Md_findPieces 97 = .ok (.aload_n 0, 1) := by decide +kernel
theorem d_Md_findPieces_98 : decode b_Md_findPieces 98 = .ok (.getfield 90, 3) := by decide +kernel
theorem d_Md_findPieces_101 : decode b_Md_findPieces 101 = .ok (.iload 5, 2) := by decide +kernel
theorem d_Md_findPieces_103 : decode b_Md_findPieces 103 = .ok (.iaload, 1) := by decide +kernel
