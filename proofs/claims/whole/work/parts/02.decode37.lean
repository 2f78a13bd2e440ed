theorem d_Md_circlesOf_68 : decode b_Md_circlesOf 68 = .ok (.iload 5, 2) := by decide +kernel
theorem d_Md_circlesOf_70 : decode b_Md_circlesOf 70 = .ok (.iconst 2, 1) := by decide +kernel
theorem d_Md_circlesOf_71 : decode b_Md_circlesOf 71 = .ok (.if_icmp .ge 81, 3) := by decide +kernel
theorem d_Md_circlesOf_74 : decode b_Md_circlesOf 74 = .ok (.aload_n 0, 1) := by decide +kernel
theorem d_Md_circlesOf_75 : decode b_Md_circlesOf 75 = .ok (.aload_n 0, 1) := by decide +kernel
theorem d_Md_circlesOf_76 : decode b_Md_circlesOf 76 = .ok (.getfield 81, 3) := by decide +kernel
theorem d_Md_circlesOf_79 : decode b_Md_circlesOf 79 = .ok (.iconst 4, 1) := by decide +kernel
theorem d_Md_circlesOf_80 : decode b_Md_circlesOf 80 = .ok (.iload_n 3, 1) := by decide +kernel
theorem d_Md_circlesOf_81 : decode b_Md_circlesOf 81 = .ok (.imul, 1) := by decide +kernel
theorem d_Md_circlesOf_82 : decode b_Md_circlesOf 82 = .ok (.iload 4, 2) := by decide +kernel
theorem d_Md_circlesOf_84 : decode b_Md_circlesOf 84 = .ok (.iadd, 1) := by decide +kernel
theorem d_Md_circlesOf_85 : decode b_Md_circlesOf 85 = .ok (.iconst 2, 1) := by decide +kernel
theorem d_Md_circlesOf_86 : decode b_Md_circlesOf 86 = .ok (.iload 5, 2) := by decide +kernel
theorem d_Md_circlesOf_88 : decode b_Md_circlesOf 88 = .ok (.imul, 1) := by decide +kernel
theorem d_Md_circlesOf_89 : decode b_Md_circlesOf 89 = .ok (.iadd, 1) := by decide +kernel
theorem d_Md_circlesOf_90 : decode b_Md_circlesOf 90 = .ok (.iaload, 1) := by decide +kernel
theorem d_Md_circlesOf_91 : decode b_Md_circlesOf 91 = .ok (.invokevirtual 441, 3) := by decide +kernel
theorem d_Md_circlesOf_94 : decode b_Md_circlesOf 94 = .ok (.istore 6, 2) := by decide +kernel
theorem d_Md_circlesOf_96 : decode b_Md_circlesOf 96 = .ok (.aload_n 0, 1) := by decide +kernel
theorem d_Md_circlesOf_97 : decode b_Md_circlesOf 97 = .ok (.aload_n 0, 1) := by decide +kernel
theorem d_Md_circlesOf_98 : decode b_Md_circlesOf 98 = .ok (.getfield 81, 3) := by decide +kernel
theorem d_Md_circlesOf_101 : decode b_Md_circlesOf 101 = .ok (.iconst 4, 1) := by decide +kernel
theorem d_Md_circlesOf_102 : decode b_Md_circlesOf 102 = .ok (.iload_n 3, 1) := by decide +kernel
theorem d_Md_circlesOf_103 : decode b_Md_circlesOf 103 = .ok (.imul, 1) := by decide +kernel
theorem d_Md_circlesOf_104 : decode b_Md_circlesOf 104 = .ok (.iload 4, 2) := by decide +kernel
theorem d_Md_circlesOf_106 : decode b_Md_circlesOf 106 = .ok (.iconst 2, 1) := by decide +kernel
theorem d_Md_circlesOf_107 : decode b_Md_circlesOf 107 = .ok (.iload 5, 2) := by decide +kernel
theorem d_Md_circlesOf_109 : decode b_Md_circlesOf 109 = .ok (.imul, 1) := by decide +kernel
theorem d_Md_circlesOf_110 : decode b_Md_circlesOf 110 = .ok (.iadd, 1) := by decide +kernel
theorem d_Md_circlesOf_111 : decode b_Md_circlesOf 111 = .ok (.iconst 1, 1) := by decide +kernel
theorem d_Md_circlesOf_112 : decode b_Md_circlesOf 112 = .ok (.iadd, 1) := by decide +kernel
theorem d_Md_circlesOf_113 : decode b_Md_circlesOf 113 = .ok (.iconst 3, 1) := by decide +kernel
theorem d_Md_circlesOf_114 : decode b_Md_circlesOf 114 = .ok (.iand, 1) := by decide +kernel
theorem d_Md_circlesOf_115 : decode b_Md_circlesOf 115 = .ok (.iadd, 1) := by decide +kernel
theorem d_Md_circlesOf_116 : decode b_Md_circlesOf 116 = .ok (.iaload, 1) := by decide +kernel
theorem d_Md_circlesOf_117 : decode b_Md_circlesOf 117 = .ok (.invokevirtual 441, 3) := by decide +kernel
theorem d_Md_circlesOf_120 : decode b_Md_circlesOf 120 = .ok (.istore 7, 2) := by decide +kernel
theorem d_Md_circlesOf_122 : decode b_Md_circlesOf 122 = .ok (.iload_n 2, 1) := by decide +kernel
theorem d_Md_circlesOf_123 : decode b_Md_circlesOf 123 = .ok (.iload 6, 2) := by decide +kernel
theorem d_Md_circlesOf_125 : decode b_Md_circlesOf 125 = .ok (.iload 7, 2) := by decide +kernel
theorem d_Md_circlesOf_127 : decode b_Md_circlesOf 127 = .ok (.if_icmp .ne 7, 3) := by decide +kernel
theorem d_Md_circlesOf_130 : decode b_Md_circlesOf 130 = .ok (.iconst 0, 1) := by decide +kernel
theorem d_Md_circlesOf_131 : decode b_Md_circlesOf 131 = .ok (.goto 4, 3) := by decide +kernel
theorem d_Md_circlesOf_134 : decode b_Md_circlesOf 134 = .ok (.iconst 1, 1) := by decide +kernel
theorem d_Md_circlesOf_135 : decode b_Md_circlesOf 135 = .ok (.isub, 1) := by decide +kernel
theorem d_Md_circlesOf_136 : decode b_Md_circlesOf 136 = .ok (.istore_n 2, 1) := by decide +kernel
theorem d_Md_circlesOf_137 : decode b_Md_circlesOf 137 = .ok (.aload_n 0, 1) := by decide +kernel
theorem d_Md_circlesOf_138 : decode b_Md_circlesOf 138 = .ok (.getfield 102, 3) := by decide +kernel
theorem d_Md_circlesOf_141 : decode b_Md_circlesOf 141 = .ok (.iload 6, 2) := by decide +kernel
theorem d_Md_circlesOf_143 : decode b_Md_circlesOf 143 = .ok (.iload 7, 2) := by decide +kernel
theorem d_Md_circlesOf_145 : decode b_Md_circlesOf 145 = .ok (.iastore, 1) := by decide +kernel
theorem d_Md_circlesOf_146 : decode b_Md_circlesOf 146 = .ok (.iinc 5 1, 3) := by decide +kernel
theorem d_Md_circlesOf_149 : decode b_Md_circlesOf 149 = .ok (.goto (-81), 3) := by decide +kernel
theorem d_Md_circlesOf_152 : decode b_Md_circlesOf 152 = .ok (.iinc 3 1, 3) := by decide +kernel
theorem d_Md_circlesOf_155 : decode b_Md_circlesOf 155 = .ok (.goto (-117), 3) := by decide +kernel
theorem d_Md_circlesOf_158 : decode b_Md_circlesOf 158 = .ok (.iload_n 2, 1) := by decide +kernel
theorem d_Md_circlesOf_159 : decode b_Md_circlesOf 159 = .ok (.ireturn, 1) := by decide +kernel
theorem d_Md_clearPoly_0 : decode b_Md_clearPoly 0 = .ok (.iconst 0, 1) := by decide +kernel
theorem d_Md_clearPoly_1 : decode b_Md_clearPoly 1 = .ok (.istore_n 1, 1) := by decide +kernel
theorem d_Md_clearPoly_2 : decode b_Md_clearPoly 2 = .ok (.iload_n 1, 1) := by decide +kernel
theorem d_Md_clearPoly_3 : decode b_Md_clearPoly 3 = .ok (.sipush 200, 3) := by decide +kernel
theorem d_Md_clearPoly_6 : decode b_Md_clearPoly 6 = .ok (.if_icmp .gt 16, 3) := by decide +kernel
theorem d_Md_clearPoly_9 : decode b_Md_clearPoly 9 = .ok (.aload_n 0, 1) := by decide +kernel
theorem d_Md_clearPoly_10 : decode b_Md_clearPoly 10 = .ok (.getfield 96, 3) := by decide +kernel
theorem d_Md_clearPoly_13 : decode b_Md_clearPoly 13 = .ok (.iload_n 1, 1) := by decide +kernel
theorem d_Md_clearPoly_14 : decode b_Md_clearPoly 14 = .ok (.lconst 0, 1) := by decide +kernel
theorem d_Md_clearPoly_15 : decode b_Md_clearPoly 15 = .ok (.lastore, 1) := by decide +kernel
theorem d_Md_clearPoly_16 : decode b_Md_clearPoly 16 = .ok (.iinc 1 1, 3) := by decide +kernel
theorem d_Md_clearPoly_19 : decode b_Md_clearPoly 19 = .ok (.goto (-17), 3) := by decide +kernel
theorem d_Md_clearPoly_22 : decode b_Md_clearPoly 22 = .ok (.return_, 1) := by decide +kernel
theorem d_Md_close_0 : decode b_Md_close 0 = .ok (.aload_n 1, 1) := by decide +kernel
theorem d_Md_close_1 : decode b_Md_close 1 = .ok (.getfield 395, 3) := by decide +kernel
theorem d_Md_close_4 : decode b_Md_close 4 = .ok (.istore_n 2, 1) := by decide +kernel
theorem d_Md_close_5 : decode b_Md_close 5 = .ok (.aload_n 0, 1) := by decide +kernel
theorem d_Md_close_6 : decode b_Md_close 6 = .ok (.getfield 37, 3) := by decide +kernel
theorem d_Md_close_9 : decode b_Md_close 9 = .ok (.iconst 0, 1) := by decide +kernel
theorem d_Md_close_10 : decode b_Md_close 10 = .ok (.putfield 312, 3) := by decide +kernel
theorem d_Md_close_13 : decode b_Md_close 13 = .ok (.aload_n 0, 1) := by decide +kernel
theorem d_Md_close_14 : decode b_Md_close 14 = .ok (.getfield 37, 3) := by decide +kernel
theorem d_Md_close_17 : decode b_Md_close 17 = .ok (.iconst 0, 1) := by decide +kernel
theorem d_Md_close_18 : decode b_Md_close 18 = .ok (.putfield 354, 3) := by decide +kernel
theorem d_Md_close_21 : decode b_Md_close 21 = .ok (.iconst 1, 1) := by decide +kernel
theorem d_Md_close_22 : decode b_Md_close 22 = .ok (.istore_n 3, 1) := by decide +kernel
theorem d_Md_close_23 : decode b_Md_close 23 = .ok (.iload_n 3, 1) := by decide +kernel
theorem d_Md_close_24 : decode b_Md_close 24 = .ok (.iload_n 2, 1) := by decide +kernel
theorem d_Md_close_25 : decode b_Md_close 25 = .ok (.if_icmp .gt 16, 3) := by decide +kernel
theorem d_Md_close_28 : decode b_Md_close 28 = .ok (.aload_n 0, 1) := by decide +kernel
theorem d_Md_close_29 : decode b_Md_close 29 = .ok (.getfield 93, 3) := by decide +kernel
theorem d_Md_close_32 : decode b_Md_close 32 = .ok (.iload_n 3, 1) := by decide +kernel
theorem d_Md_close_33 : decode b_Md_close 33 = .ok (.iload_n 3, 1) := by decide +kernel
theorem d_Md_close_34 : decode b_Md_close 34 = .ok (.iastore, 1) := by decide +kernel
theorem d_Md_close_35 : decode b_Md_close 35 = .ok (.iinc 3 1, 3) := by decide +kernel
theorem d_Md_close_38 : decode b_Md_close 38 = .ok (.goto (-15), 3) := by decide +kernel
theorem d_Md_close_41 : decode b_Md_close 41 = .ok (.iconst 0, 1) := by decide +kernel
theorem d_Md_close_42 : decode b_Md_close 42 = .ok (.istore_n 3, 1) := by decide +kernel
theorem d_Md_close_43 : decode b_Md_close 43 = .ok (.iload_n 3, 1) := by decide +kernel
theorem d_Md_close_44 : decode b_Md_close 44 = .ok (.aload_n 1, 1) := by decide +kernel
theorem d_Md_close_45 : decode b_Md_close 45 = .ok (.getfield 398, 3) := by decide +kernel
theorem d_Md_close_48 : decode b_Md_close 48 = .ok (.if_icmp .ge 124, 3) := by decide +kernel
theorem d_Md_close_51 : decode b_Md_close 51 = .ok (.aload_n 1, 1) := by decide +kernel
theorem d_Md_close_52 : decode b_Md_close 52 = .ok (.getfield 400, 3) := by decide +kernel
theorem d_Md_close_55 : decode b_Md_close 55 = .ok (.iload_n 3, 1) := by decide +kernel
theorem d_Md_close_56 : decode b_Md_close 56 = .ok (.iaload, 1) := by decide +kernel
theorem d_Md_close_57 : decode b_Md_close 57 = .ok (.istore 4, 2) := by decide +kernel
theorem d_Md_close_59 : decode b_Md_close 59 = .ok (.iload 4, 2) := by decide +kernel
theorem d_Md_close_61 : decode b_Md_close 61 = .ok (.ifCond .ge 9, 3) := by decide +kernel
theorem d_Md_close_64 : decode b_Md_close 64 = .ok (.iload 4, 2) := by decide +kernel
theorem d_Md_close_66 : decode b_Md_close 66 = .ok (.ineg, 1) := by decide +kernel
theorem d_Md_close_67 : decode b_Md_close 67 = .ok (.goto 5, 3) := by decide +kernel
theorem d_Md_close_70 : decode b_Md_close 70 = .ok (.iload 4, 2) := by decide +kernel
theorem d_Md_close_72 : decode b_Md_close 72 = .ok (.istore 5, 2) := by decide +kernel
theorem d_Md_close_74 : decode b_Md_close 74 = .ok (.aload_n 0, 1) := by decide +kernel
theorem d_Md_close_75 : decode b_Md_close 75 = .ok (.getfield 93, 3) := by decide +kernel
theorem d_Md_close_78 : decode b_Md_close 78 = .ok (.iload 5, 2) := by decide +kernel
theorem d_Md_close_80 : decode b_Md_close 80 = .ok (.iaload, 1) := by decide +kernel
theorem d_Md_close_81 : decode b_Md_close 81 = .ok (.istore 6, 2) := by decide +kernel
theorem d_Md_close_83 : decode b_Md_close 83 = .ok (.aload_n 0, 1) := by decide +kernel
theorem d_Md_close_84 : decode b_Md_close 84 = .ok (.getfield 93, 3) := by decide +kernel
theorem d_Md_close_87 : decode b_Md_close 87 = .ok (.iload 5, 2) := by decide +kernel
theorem d_Md_close_89 : decode b_Md_close 89 = .ok (.iconst 1, 1) := by decide +kernel
theorem d_Md_close_90 : decode b_Md_close 90 = .ok (.iadd, 1) := by decide +kernel
theorem d_Md_close_91 : decode b_Md_close 91 = .ok (.iaload, 1) := by decide +kernel
theorem d_Md_close_92 : decode b_Md_close 92 = .ok (.istore 7, 2) := by decide +kernel
theorem d_Md_close_94 : decode b_Md_close 94 = .ok (.iload_n 2, 1) := by decide +kernel
theorem d_Md_close_95 : decode b_Md_close 95 = .ok (.iconst 2, 1) := by decide +kernel
theorem d_Md_close_96 : decode b_Md_close 96 = .ok (.iload_n 3, 1) := by decide +kernel
theorem d_Md_close_97 : decode b_Md_close 97 = .ok (.imul, 1) := by decide +kernel
theorem d_Md_close_98 : decode b_Md_close 98 = .ok (.iadd, 1) := by decide +kernel
theorem d_Md_close_99 : decode b_Md_close 99 = .ok (.iconst 1, 1) := by decide +kernel
theorem d_Md_close_100 : decode b_Md_close 100 = .ok (.iadd, 1) := by decide +kernel
theorem d_Md_close_101 : decode b_Md_close 101 = .ok (.istore 8, 2) := by decide +kernel
theorem d_Md_close_103 : decode b_Md_close 103 = .ok (.iload_n 2, 1) := by decide +kernel
theorem d_Md_close_104 : decode b_Md_close 104 = .ok (.iconst 2, 1) := by decide +kernel
theorem d_Md_close_105 : decode b_Md_close 105 = .ok (.iload_n 3, 1) := by decide +kernel
theorem d_Md_close_106 : decode b_Md_close 106 = .ok (.imul, 1) := by decide +kernel
theorem d_Md_close_107 : decode b_Md_close 107 = .ok (.iadd, 1) := by decide +kernel
theorem d_Md_close_108 : decode b_Md_close 108 = .ok (.iconst 2, 1) := by decide +kernel
theorem d_Md_close_109 : decode b_Md_close 109 = .ok (.iadd, 1) := by decide +kernel
theorem d_Md_close_110 : decode b_Md_close 110 = .ok (.istore 9, 2) := by decide +kernel
theorem d_Md_close_112 : decode b_Md_close 112 = .ok (.iload 4, 2) := by decide +kernel
theorem d_Md_close_114 : decode b_Md_close 114 = .ok (.ifCond .le 19, 3) := by decide +kernel
theorem d_Md_close_117 : decode b_Md_close 117 = .ok (.aload_n 0, 1) := by decide +kernel
theorem d_Md_close_118 : decode b_Md_close 118 = .ok (.iconst 1, 1) := by decide +kernel
theorem d_Md_close_119 : decode b_Md_close 119 = .ok (.iload 6, 2) := by decide +kernel
theorem d_Md_close_121 : decode b_Md_close 121 = .ok (.iload 9, 2) := by decide +kernel
theorem d_Md_close_123 : decode b_Md_close 123 = .ok (.iload 7, 2) := by decide +kernel
theorem d_Md_close_125 : decode b_Md_close 125 = .ok (.iload 8, 2) := by decide +kernel
theorem d_Md_close_127 : decode b_Md_close 127 = .ok (.invokevirtual 388, 3) := by decide +kernel
theorem d_Md_close_130 : decode b_Md_close 130 = .ok (.goto 16, 3) := by decide +kernel
theorem d_Md_close_133 : decode b_Md_close 133 = .ok (.aload_n 0, 1) := by decide +kernel
theorem d_Md_close_134 : decode b_Md_close 134 = .ok (.iconst (-1), 1) := by decide +kernel
theorem d_Md_close_135 : decode b_Md_close 135 = .ok (.iload 7, 2) := by decide +kernel
theorem d_Md_close_137 : decode b_Md_close 137 = .ok (.iload 8, 2) := by decide +kernel
theorem d_Md_close_139 : decode b_Md_close 139 = .ok (.iload 6, 2) := by decide +kernel
theorem d_Md_close_141 : decode b_Md_close 141 = .ok (.iload 9, 2) := by decide +kernel
theorem d_Md_close_143 : decode b_Md_close 143 = .ok (.invokevirtual 388, 3) := by decide +kernel
theorem d_Md_close_146 : decode b_Md_close 146 = .ok (.aload_n 0, 1) := by decide +kernel
theorem d_Md_close_147 : decode b_Md_close 147 = .ok (.getfield 93, 3) := by decide +kernel
theorem d_Md_close_150 : decode b_Md_close 150 = .ok (.iload 5, 2) := by decide +kernel
theorem d_Md_close_152 : decode b_Md_close 152 = .ok (.iload 8, 2) := by decide +kernel
theorem d_Md_close_154 : decode b_Md_close 154 = .ok (.iastore, 1) := by decide +kernel
theorem d_Md_close_155 : decode b_Md_close 155 = .ok (.aload_n 0, 1) := by decide +kernel
theorem d_Md_close_156 : decode b_Md_close 156 = .ok (.getfield 93, 3) := by decide +kernel
theorem d_Md_close_159 : decode b_Md_close 159 = .ok (.iload 5, 2) := by decide +kernel
theorem d_Md_close_161 : decode b_Md_close 161 = .ok (.iconst 1, 1) := by decide +kernel
theorem d_Md_close_162 : decode b_Md_close 162 = .ok (.iadd, 1) := by decide +kernel
theorem d_Md_close_163 : decode b_Md_close 163 = .ok (.iload 9, 2) := by decide +kernel
theorem d_Md_close_165 : decode b_Md_close 165 = .ok (.iastore, 1) := by decide +kernel
theorem d_Md_close_166 : decode b_Md_close 166 = .ok (.iinc 3 1, 3) := by decide +kernel
theorem d_Md_close_169 : decode b_Md_close 169 = .ok (.goto (-126), 3) := by decide +kernel
theorem d_Md_close_172 : decode b_Md_close 172 = .ok (.iconst 1, 1) := by decide +kernel
theorem d_Md_close_173 : decode b_Md_close 173 = .ok (.istore_n 3, 1) := by decide +kernel
theorem d_Md_close_174 : decode b_Md_close 174 = .ok (.iload_n 3, 1) := by decide +kernel
theorem d_Md_close_175 : decode b_Md_close 175 = .ok (.iload_n 2, 1) := by decide +kernel
theorem d_Md_close_176 : decode b_Md_close 176 = .ok (.if_icmp .gt 98, 3) := by decide +kernel
theorem d_Md_close_179 : decode b_Md_close 179 = .ok (.aload_n 0, 1) := by decide +kernel
theorem d_Md_close_180 : decode b_Md_close 180 = .ok (.getfield 93, 3) := by decide +kernel
theorem d_Md_close_183 : decode b_Md_close 183 = .ok (.iload_n 3, 1) := by decide +kernel
theorem d_Md_close_184 : decode b_Md_close 184 = .ok (.iaload, 1) := by decide +kernel
theorem d_Md_close_185 : decode b_Md_close 185 = .ok (.iload_n 3, 1) := by decide +kernel
theorem d_Md_close_186 : decode b_Md_close 186 = .ok (.if_icmp .ne 16, 3) := by decide +kernel
theorem d_Md_close_189 : decode b_Md_close 189 = .ok (.aload_n 0, 1) := by decide +kernel
theorem d_Md_close_190 : decode b_Md_close 190 = .ok (.getfield 37, 3) := by decide +kernel
theorem d_Md_close_193 : decode b_Md_close 193 = .ok (.dup, 1) := by decide +kernel
theorem d_Md_close_194 : decode b_Md_close 194 = .ok (.getfield 354, 3) := by decide +kernel
theorem d_Md_close_197 : decode b_Md_close 197 = .ok (.iconst 1, 1) := by decide +kernel
theorem d_Md_close_198 : decode b_Md_close 198 = .ok (.iadd, 1) := by decide +kernel
theorem d_Md_close_199 : decode b_Md_close 199 = .ok (.putfield 354, 3) := by decide +kernel
theorem d_Md_close_202 : decode b_Md_close 202 = .ok (.iconst 0, 1) := by decide +kernel
theorem d_Md_close_203 : decode b_Md_close 203 = .ok (.istore 4, 2) := by decide +kernel
theorem d_Md_close_205 : decode b_Md_close 205 = .ok (.iload 4, 2) := by decide +kernel
theorem d_Md_close_207 : decode b_Md_close 207 = .ok (.iconst 4, 1) := by decide +kernel
theorem d_Md_close_208 : decode b_Md_close 208 = .ok (.aload_n 0, 1) := by decide +kernel
theorem d_Md_close_209 : decode b_Md_close 209 = .ok (.getfield 37, 3) := by decide +kernel
theorem d_Md_close_212 : decode b_Md_close 212 = .ok (.getfield 312, 3) := by decide +kernel
theorem d_Md_close_215 : decode b_Md_close 215 = .ok (.imul, 1) := by decide +kernel
theorem d_Md_close_216 : decode b_Md_close 216 = .ok (.if_icmp .ge 52, 3) := by decide +kernel
theorem d_Md_close_219 : decode b_Md_close 219 = .ok (.aload_n 0, 1) := by decide +kernel
theorem d_Md_close_220 : decode b_Md_close 220 = .ok (.getfield 37, 3) := by decide +kernel
theorem d_Md_close_223 : decode b_Md_close 223 = .ok (.getfield 318, 3) := by decide +kernel
