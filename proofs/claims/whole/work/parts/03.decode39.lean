theorem d_Md_count_0 : decode b_Md_count 0 = .ok (.aload_n 0, 1) := by decide +kernel
theorem d_Md_count_1 : decode b_Md_count 1 = .ok (.invokevirtual 496, 3) := by decide +kernel
theorem d_Md_count_4 : decode b_Md_count 4 = .ok (.aload_n 0, 1) := by decide +kernel
theorem d_Md_count_5 : decode b_Md_count 5 = .ok (.bipush 35, 2) := by decide +kernel
theorem d_Md_count_7 : decode b_Md_count 7 = .ok (.invokevirtual 509, 3) := by decide +kernel
theorem d_Md_count_10 : decode b_Md_count 10 = .ok (.aload_n 0, 1) := by decide +kernel
theorem d_Md_count_11 : decode b_Md_count 11 = .ok (.aload_n 0, 1) := by decide +kernel
theorem d_Md_count_12 : decode b_Md_count 12 = .ok (.getfield 37, 3) := by decide +kernel
theorem d_Md_count_15 : decode b_Md_count 15 = .ok (.getfield 312, 3) := by decide +kernel
theorem d_Md_count_18 : decode b_Md_count 18 = .ok (.i2l, 1) := by decide +kernel
theorem d_Md_count_19 : decode b_Md_count 19 = .ok (.invokevirtual 536, 3) := by decide +kernel
theorem d_Md_count_22 : decode b_Md_count 22 = .ok (.aload_n 0, 1) := by decide +kernel
theorem d_Md_count_23 : decode b_Md_count 23 = .ok (.aload_n 0, 1) := by decide +kernel
theorem d_Md_count_24 : decode b_Md_count 24 = .ok (.getfield 37, 3) := by decide +kernel
theorem d_Md_count_27 : decode b_Md_count 27 = .ok (.getfield 354, 3) := by decide +kernel
theorem d_Md_count_30 : decode b_Md_count 30 = .ok (.i2l, 1) := by decide +kernel
theorem d_Md_count_31 : decode b_Md_count 31 = .ok (.invokevirtual 536, 3) := by decide +kernel
theorem d_Md_count_34 : decode b_Md_count 34 = .ok (.aload_n 0, 1) := by decide +kernel
theorem d_Md_count_35 : decode b_Md_count 35 = .ok (.aload_n 0, 1) := by decide +kernel
theorem d_Md_count_36 : decode b_Md_count 36 = .ok (.getfield 328, 3) := by decide +kernel
theorem d_Md_count_39 : decode b_Md_count 39 = .ok (.aload_n 0, 1) := by decide +kernel
theorem d_Md_count_40 : decode b_Md_count 40 = .ok (.getfield 37, 3) := by decide +kernel
theorem d_Md_count_43 : decode b_Md_count 43 = .ok (.getfield 354, 3) := by decide +kernel
theorem d_Md_count_46 : decode b_Md_count 46 = .ok (.iadd, 1) := by decide +kernel
theorem d_Md_count_47 : decode b_Md_count 47 = .ok (.i2l, 1) := by decide +kernel
theorem d_Md_count_48 : decode b_Md_count 48 = .ok (.invokevirtual 536, 3) := by decide +kernel
theorem d_Md_count_51 : decode b_Md_count 51 = .ok (.aload_n 0, 1) := by decide +kernel
theorem d_Md_count_52 : decode b_Md_count 52 = .ok (.aload_n 0, 1) := by decide +kernel
theorem d_Md_count_53 : decode b_Md_count 53 = .ok (.getfield 336, 3) := by decide +kernel
theorem d_Md_count_56 : decode b_Md_count 56 = .ok (.aload_n 0, 1) := by decide +kernel
theorem d_Md_count_57 : decode b_Md_count 57 = .ok (.getfield 37, 3) := by decide +kernel
theorem d_Md_count_60 : decode b_Md_count 60 = .ok (.getfield 354, 3) := by decide +kernel
theorem d_Md_count_63 : decode b_Md_count 63 = .ok (.iadd, 1) := by decide +kernel
theorem d_Md_count_64 : decode b_Md_count 64 = .ok (.i2l, 1) := by decide +kernel
theorem d_Md_count_65 : decode b_Md_count 65 = .ok (.invokevirtual 536, 3) := by decide +kernel
theorem d_Md_count_68 : decode b_Md_count 68 = .ok (.aload_n 0, 1) := by decide +kernel
theorem d_Md_count_69 : decode b_Md_count 69 = .ok (.aload_n 0, 1) := by decide +kernel
theorem d_Md_count_70 : decode b_Md_count 70 = .ok (.getfield 331, 3) := by decide +kernel
theorem d_Md_count_73 : decode b_Md_count 73 = .ok (.i2l, 1) := by decide +kernel
theorem d_Md_count_74 : decode b_Md_count 74 = .ok (.invokevirtual 536, 3) := by decide +kernel
theorem d_Md_count_77 : decode b_Md_count 77 = .ok (.aload_n 0, 1) := by decide +kernel
theorem d_Md_count_78 : decode b_Md_count 78 = .ok (.aload_n 0, 1) := by decide +kernel
theorem d_Md_count_79 : decode b_Md_count 79 = .ok (.getfield 459, 3) := by decide +kernel
theorem d_Md_count_82 : decode b_Md_count 82 = .ok (.i2l, 1) := by decide +kernel
theorem d_Md_count_83 : decode b_Md_count 83 = .ok (.invokevirtual 536, 3) := by decide +kernel
theorem d_Md_count_86 : decode b_Md_count 86 = .ok (.aload_n 0, 1) := by decide +kernel
theorem d_Md_count_87 : decode b_Md_count 87 = .ok (.aload_n 0, 1) := by decide +kernel
theorem d_Md_count_88 : decode b_Md_count 88 = .ok (.invokevirtual 594, 3) := by decide +kernel
theorem d_Md_count_91 : decode b_Md_count 91 = .ok (.i2l, 1) := by decide +kernel
theorem d_Md_count_92 : decode b_Md_count 92 = .ok (.invokevirtual 536, 3) := by decide +kernel
theorem d_Md_count_95 : decode b_Md_count 95 = .ok (.aload_n 0, 1) := by decide +kernel
theorem d_Md_count_96 : decode b_Md_count 96 = .ok (.aload_n 0, 1) := by decide +kernel
theorem d_Md_count_97 : decode b_Md_count 97 = .ok (.invokevirtual 456, 3) := by decide +kernel
theorem d_Md_count_100 : decode b_Md_count 100 = .ok (.i2l, 1) := by decide +kernel
theorem d_Md_count_101 : decode b_Md_count 101 = .ok (.invokevirtual 536, 3) := by decide +kernel
theorem d_Md_count_104 : decode b_Md_count 104 = .ok (.aload_n 0, 1) := by decide +kernel
theorem d_Md_count_105 : decode b_Md_count 105 = .ok (.aload_n 0, 1) := by decide +kernel
theorem d_Md_count_106 : decode b_Md_count 106 = .ok (.invokevirtual 597, 3) := by decide +kernel
theorem d_Md_count_109 : decode b_Md_count 109 = .ok (.ifCond .eq 7, 3) := by decide +kernel
theorem d_Md_count_116 : decode b_Md_count 116 = .ok (.lconst 0, 1) := by decide +kernel
theorem d_Md_count_112 : decode b_Md_count 112 = .ok (.lconst 1, 1) := by decide +kernel
theorem d_Md_count_113 : decode b_Md_count 113 = .ok (.goto 4, 3) := by decide +kernel
theorem d_Md_circlesOf_135 : decode b_Md_circlesOf 135 = .ok (.isub, 1) := by decide +kernel
theorem d_Md_circlesOf_136 : decode b_Md_circlesOf 136 = .ok (.istore_n 2, 1) := by decide +kernel
theorem d_Md_circlesOf_137 : decode b_Md_circlesOf 137 = .ok (.aload_n 0, 1) := by decide +kernel
theorem d_Md_circlesOf_138 : decode b_Md_circlesOf 138 = .ok (.getfield 102, 3) := by decide +kernel
theorem d_Md_circlesOf_141 : decode b_Md_circlesOf 141 = .ok (.iload 6, 2) := by decide +kernel
theorem d_Md_circlesOf_143 : decode b_Md_circlesOf 143 = .ok (.iload 7, 2) := by decide +kernel
theorem d_Md_circlesOf_145 : decode b_Md_circlesOf 145 = .ok (.iastore, 1) := by decide +kernel
theorem d_Md_circlesOf_146 : decode b_Md_circlesOf 146 = .ok (.iinc 5 1, 3) := by decide +kernel
theorem d_Md_circlesOf_149 : decode b_Md_circlesOf 149 = .ok (.goto (-81), 3) := by decide +kernel
theorem d_Md_circlesOf_68 : decode b_Md_circlesOf 68 = .ok (.iload 5, 2) := by decide +kernel
theorem d_Md_circlesOf_70 : decode b_Md_circlesOf 70 = .ok (.iconst 2, 1) := by decide +kernel
theorem d_Md_circlesOf_71 : decode b_Md_circlesOf 71 = .ok (.if_icmp .ge 81, 3) := by decide +kernel
theorem d_Md_circlesOf_152 : decode b_Md_circlesOf 152 = .ok (.iinc 3 1, 3) := by decide +kernel
theorem d_Md_circlesOf_155 : decode b_Md_circlesOf 155 = .ok (.goto (-117), 3) := by decide +kernel
theorem d_Md_circlesOf_74 : decode b_Md_circlesOf 74 = .ok (.aload_n 0, 1) := by decide +kernel
theorem d_Md_circlesOf_75 : decode b_Md_circlesOf 75 = .ok (.aload_n 0, 1) := by decide +kernel
theorem d_Md_circlesOf_76 : decode b_Md_circlesOf 76 = .ok (.getfield 81, 3) := by decide +kernel
theorem d_Md_circlesOf_79 : decode b_Md_circlesOf 79 = .ok (.iconst 4, 1) := by decide +kernel
theorem d_Md_circlesOf_80 : decode b_Md_circlesOf 80 = .ok (.iload_n 3, 1) := by decide +kernel
theorem d_Md_circlesOf_81 : decode b_Md_circlesOf 81 = .ok (.imul, 1) := by decide +kernel
theorem d_Md_circlesOf_82 : decode b_Md_circlesOf 82 = .ok (.iload 4, 2) := by decide +kernel
theorem d_Md_circlesOf_84 : decode b_Md_circlesOf 84 = .ok (.iadd, 1) := by decide +kernel
theorem d_Md_circlesOf_85 : decode b_Md_circlesOf 85 = .ok (.iconst 2, 1) := by decide +kernel
theorem d_Md_circlesOf_86 : decode b_Md_circlesOf 86 = .ok (.iload 5, 2) := by decide +kernel
theorem d_Md_circlesOf_88 : decode b_Md_circlesOf 88 = .ok (.imul, 1) := by decide +kernel
theorem d_Md_circlesOf_89 : decode b_Md_circlesOf 89 = .ok (.iadd, 1) := by decide +kernel
theorem d_Md_circlesOf_90 : decode b_Md_circlesOf 90 = .ok (.iaload, 1) := by decide +kernel
theorem d_Md_circlesOf_91 : decode b_Md_circlesOf 91 = .ok (.invokevirtual 441, 3) := by decide +kernel
theorem d_Md_circlesOf_94 : decode b_Md_circlesOf 94 = .ok (.istore 6, 2) := by decide +kernel
theorem d_Md_circlesOf_96 : decode b_Md_circlesOf 96 = .ok (.aload_n 0, 1) := by decide +kernel
theorem d_Md_circlesOf_97 : decode b_Md_circlesOf 97 = .ok (.aload_n 0, 1) := by decide +kernel
theorem d_Md_circlesOf_98 : decode b_Md_circlesOf 98 = .ok (.getfield 81, 3) := by decide +kernel
theorem d_Md_circlesOf_101 : decode b_Md_circlesOf 101 = .ok (.iconst 4, 1) := by decide +kernel
theorem d_Md_circlesOf_102 : decode b_Md_circlesOf 102 = .ok (.iload_n 3, 1) := by decide +kernel
theorem d_Md_circlesOf_103 : decode b_Md_circlesOf 103 = .ok (.imul, 1) := by decide +kernel
theorem d_Md_circlesOf_104 : decode b_Md_circlesOf 104 = .ok (.iload 4, 2) := by decide +kernel
theorem d_Md_circlesOf_106 : decode b_Md_circlesOf 106 = .ok (.iconst 2, 1) := by decide +kernel
theorem d_Md_circlesOf_107 : decode b_Md_circlesOf 107 = .ok (.iload 5, 2) := by decide +kernel
theorem d_Md_circlesOf_109 : decode b_Md_circlesOf 109 = .ok (.imul, 1) := by decide +kernel
theorem d_Md_circlesOf_110 : decode b_Md_circlesOf 110 = .ok (.iadd, 1) := by decide +kernel
theorem d_Md_circlesOf_111 : decode b_Md_circlesOf 111 = .ok (.iconst 1, 1) := by decide +kernel
theorem d_Md_circlesOf_112 : decode b_Md_circlesOf 112 = .ok (.iadd, 1) := by decide +kernel
theorem d_Md_circlesOf_113 : decode b_Md_circlesOf 113 = .ok (.iconst 3, 1) := by decide +kernel
theorem d_Md_circlesOf_114 : decode b_Md_circlesOf 114 = .ok (.iand, 1) := by decide +kernel
theorem d_Md_circlesOf_115 : decode b_Md_circlesOf 115 = .ok (.iadd, 1) := by decide +kernel
theorem d_Md_circlesOf_116 : decode b_Md_circlesOf 116 = .ok (.iaload, 1) := by decide +kernel
theorem d_Md_circlesOf_117 : decode b_Md_circlesOf 117 = .ok (.invokevirtual 441, 3) := by decide +kernel
theorem d_Md_circlesOf_120 : decode b_Md_circlesOf 120 = .ok (.istore 7, 2) := by decide +kernel
theorem d_Md_circlesOf_122 : decode b_Md_circlesOf 122 = .ok (.iload_n 2, 1) := by decide +kernel
theorem d_Md_circlesOf_123 : decode b_Md_circlesOf 123 = .ok (.iload 6, 2) := by decide +kernel
theorem d_Md_circlesOf_125 : decode b_Md_circlesOf 125 = .ok (.iload 7, 2) := by decide +kernel
theorem d_Md_circlesOf_127 : decode b_Md_circlesOf 127 = .ok (.if_icmp .ne 7, 3) := by decide +kernel
theorem d_Md_circlesOf_134 : decode b_Md_circlesOf 134 = .ok (.iconst 1, 1) := by decide +kernel
theorem d_Md_circlesOf_130 : decode b_Md_circlesOf 130 = .ok (.iconst 0, 1) := by decide +kernel
theorem d_Md_circlesOf_131 : decode b_Md_circlesOf 131 = .ok (.goto 4, 3) := by decide +kernel
theorem d_Md_circlesOf_63 : decode b_Md_circlesOf 63 = .ok (.istore 4, 2) := by decide +kernel
theorem d_Md_circlesOf_65 : decode b_Md_circlesOf 65 = .ok (.iconst 0, 1) := by decide +kernel
theorem d_Md_circlesOf_66 : decode b_Md_circlesOf 66 = .ok (.istore 5, 2) := by decide +kernel
theorem d_Md_circlesOf_38 : decode b_Md_circlesOf 38 = .ok (.iload_n 3, 1) := by decide +kernel
theorem d_Md_circlesOf_39 : decode b_Md_circlesOf 39 = .ok (.aload_n 0, 1) := by decide +kernel
theorem d_Md_circlesOf_40 : decode b_Md_circlesOf 40 = .ok (.getfield 37, 3) := by decide +kernel
theorem d_Md_circlesOf_43 : decode b_Md_circlesOf 43 = .ok (.getfield 312, 3) := by decide +kernel
theorem d_Md_circlesOf_46 : decode b_Md_circlesOf 46 = .ok (.if_icmp .ge 112, 3) := by decide +kernel
theorem d_Md_circlesOf_158 : decode b_Md_circlesOf 158 = .ok (.iload_n 2, 1) := by decide +kernel
theorem d_Md_circlesOf_159 : decode b_Md_circlesOf 159 = .ok (.ireturn, 1) := by decide +kernel
theorem d_Md_circlesOf_49 : decode b_Md_circlesOf 49 = .ok (.iload_n 1, 1) := by decide +kernel
theorem d_Md_circlesOf_50 : decode b_Md_circlesOf 50 = .ok (.iload_n 3, 1) := by decide +kernel
theorem d_Md_circlesOf_51 : decode b_Md_circlesOf 51 = .ok (.ishr, 1) := by decide +kernel
theorem d_Md_circlesOf_52 : decode b_Md_circlesOf 52 = .ok (.iconst 1, 1) := by decide +kernel
theorem d_Md_circlesOf_53 : decode b_Md_circlesOf 53 = .ok (.iand, 1) := by decide +kernel
theorem d_Md_circlesOf_54 : decode b_Md_circlesOf 54 = .ok (.iconst 1, 1) := by decide +kernel
theorem d_Md_circlesOf_55 : decode b_Md_circlesOf 55 = .ok (.if_icmp .ne 7, 3) := by decide +kernel
theorem d_Md_circlesOf_62 : decode b_Md_circlesOf 62 = .ok (.iconst 1, 1) := by decide +kernel
theorem d_Md_circlesOf_58 : decode b_Md_circlesOf 58 = .ok (.iconst 0, 1) := by decide +kernel
theorem d_Md_circlesOf_59 : decode b_Md_circlesOf 59 = .ok (.goto 4, 3) := by decide +kernel
theorem d_Md_circlesOf_15 : decode b_Md_circlesOf 15 = .ok (.iload_n 3, 1) := by decide +kernel
theorem d_Md_circlesOf_16 : decode b_Md_circlesOf 16 = .ok (.aload_n 0, 1) := by decide +kernel
theorem d_Md_circlesOf_17 : decode b_Md_circlesOf 17 = .ok (.getfield 309, 3) := by decide +kernel
theorem d_Md_circlesOf_20 : decode b_Md_circlesOf 20 = .ok (.if_icmp .ge 16, 3) := by decide +kernel
theorem d_Md_circlesOf_36 : decode b_Md_circlesOf 36 = .ok (.iconst 0, 1) := by decide +kernel
theorem d_Md_circlesOf_37 : decode b_Md_circlesOf 37 = .ok (.istore_n 3, 1) := by decide +kernel
theorem d_Md_circlesOf_23 : decode b_Md_circlesOf 23 = .ok (.aload_n 0, 1) := by decide +kernel
theorem d_Md_circlesOf_24 : decode b_Md_circlesOf 24 = .ok (.getfield 102, 3) := by decide +kernel
theorem d_Md_circlesOf_27 : decode b_Md_circlesOf 27 = .ok (.iload_n 3, 1) := by decide +kernel
theorem d_Md_circlesOf_28 : decode b_Md_circlesOf 28 = .ok (.iload_n 3, 1) := by decide +kernel
theorem d_Md_circlesOf_29 : decode b_Md_circlesOf 29 = .ok (.iastore, 1) := by decide +kernel
theorem d_Md_circlesOf_30 : decode b_Md_circlesOf 30 = .ok (.iinc 3 1, 3) := by decide +kernel
theorem d_Md_circlesOf_33 : decode b_Md_circlesOf 33 = .ok (.goto (-18), 3) := by decide +kernel
theorem d_Md_circlesOf_0 : decode b_Md_circlesOf 0 = .ok (.aload_n 0, 1) := by decide +kernel
theorem d_Md_circlesOf_1 : decode b_Md_circlesOf 1 = .ok (.getfield 309, 3) := by decide +kernel
theorem d_Md_circlesOf_4 : decode b_Md_circlesOf 4 = .ok (.aload_n 0, 1) := by decide +kernel
theorem d_Md_circlesOf_5 : decode b_Md_circlesOf 5 = .ok (.getfield 37, 3) := by decide +kernel
theorem d_Md_circlesOf_8 : decode b_Md_circlesOf 8 = .ok (.getfield 354, 3) := by decide +kernel
theorem d_Md_circlesOf_11 : decode b_Md_circlesOf 11 = .ok (.iadd, 1) := by decide +kernel
theorem d_Md_circlesOf_12 : decode b_Md_circlesOf 12 = .ok (.istore_n 2, 1) := by decide +kernel
theorem d_Md_circlesOf_13 : decode b_Md_circlesOf 13 = .ok (.iconst 0, 1) := by decide +kernel
theorem d_Md_circlesOf_14 : decode b_Md_circlesOf 14 = .ok (.istore_n 3, 1) := by decide +kernel
theorem d_Md_findMinors_201 : decode b_Md_findMinors 201 = .ok (.iinc 3 1, 3) := by decide +kernel
theorem d_Md_findMinors_204 : decode b_Md_findMinors 204 = .ok (.goto (-173), 3) := by decide +kernel
theorem d_Md_findMinors_195 : decode b_Md_findMinors 195 = .ok (.iinc 7 (-1), 3) := by decide +kernel
theorem d_Md_findMinors_198 : decode b_Md_findMinors 198 = .ok (.goto (-56), 3) := by decide +kernel
theorem d_Md_findMinors_181 : decode b_Md_findMinors 181 = .ok (.bipush 20, 2) := by decide +kernel
theorem d_Md_findMinors_183 : decode b_Md_findMinors 183 = .ok (.iload 5, 2) := by decide +kernel
theorem d_Md_findMinors_185 : decode b_Md_findMinors 185 = .ok (.imul, 1) := by decide +kernel
theorem d_Md_findMinors_186 : decode b_Md_findMinors 186 = .ok (.iload 7, 2) := by decide +kernel
theorem d_Md_findMinors_188 : decode b_Md_findMinors 188 = .ok (.iadd, 1) := by decide +kernel
theorem d_Md_findMinors_189 : decode b_Md_findMinors 189 = .ok (.invokevirtual 462, 3) := by decide +kernel
theorem d_Md_findMinors_192 : decode b_Md_findMinors 192 = .ok (.iinc 6 1, 3) := by decide +kernel
theorem d_Md_findMinors_142 : decode b_Md_findMinors 142 = .ok (.iload 7, 2) := by decide +kernel
theorem d_Md_findMinors_144 : decode b_Md_findMinors 144 = .ok (.ifCond .lt 57, 3) := by decide +kernel
theorem d_Md_findMinors_147 : decode b_Md_findMinors 147 = .ok (.iload_n 3, 1) := by decide +kernel
theorem d_Md_findMinors_148 : decode b_Md_findMinors 148 = .ok (.iload 7, 2) := by decide +kernel
theorem d_Md_findMinors_150 : decode b_Md_findMinors 150 = .ok (.ishr, 1) := by decide +kernel
theorem d_Md_findMinors_151 : decode b_Md_findMinors 151 = .ok (.iconst 1, 1) := by decide +kernel
theorem d_Md_findMinors_152 : decode b_Md_findMinors 152 = .ok (.iand, 1) := by decide +kernel
theorem d_Md_findMinors_153 : decode b_Md_findMinors 153 = .ok (.ifCond .ne 6, 3) := by decide +kernel
theorem d_Md_findMinors_159 : decode b_Md_findMinors 159 = .ok (.aload_n 0, 1) := by decide +kernel
theorem d_Md_findMinors_160 : decode b_Md_findMinors 160 = .ok (.iload_n 3, 1) := by decide +kernel
theorem d_Md_findMinors_161 : decode b_Md_findMinors 161 = .ok (.iload_n 3, 1) := by decide +kernel
theorem d_Md_findMinors_162 : decode b_Md_findMinors 162 = .ok (.iconst 1, 1) := by decide +kernel
theorem d_Md_findMinors_163 : decode b_Md_findMinors 163 = .ok (.iload 7, 2) := by decide +kernel
theorem d_Md_findMinors_165 : decode b_Md_findMinors 165 = .ok (.ishl, 1) := by decide +kernel
theorem d_Md_findMinors_166 : decode b_Md_findMinors 166 = .ok (.ixor, 1) := by decide +kernel
theorem d_Md_findMinors_167 : decode b_Md_findMinors 167 = .ok (.iload 6, 2) := by decide +kernel
theorem d_Md_findMinors_169 : decode b_Md_findMinors 169 = .ok (.iconst 2, 1) := by decide +kernel
theorem d_Md_findMinors_170 : decode b_Md_findMinors 170 = .ok (.irem, 1) := by decide +kernel
theorem d_Md_findMinors_171 : decode b_Md_findMinors 171 = .ok (.ifCond .ne 7, 3) := by decide +kernel
theorem d_Md_findMinors_178 : decode b_Md_findMinors 178 = .ok (.ldc2_w 196, 3) := by decide +kernel
theorem d_Md_findMinors_174 : decode b_Md_findMinors 174 = .ok (.lconst 1, 1) := by decide +kernel
theorem d_Md_findMinors_175 : decode b_Md_findMinors 175 = .ok (.goto 6, 3) := by decide +kernel
theorem d_Md_findMinors_156 : decode b_Md_findMinors 156 = .ok (.goto 39, 3) := by decide +kernel
theorem d_Md_findMinors_117 : decode b_Md_findMinors 117 = .ok (.istore 5, 2) := by decide +kernel
theorem d_Md_findMinors_119 : decode b_Md_findMinors 119 = .ok (.iload 5, 2) := by decide +kernel
theorem d_Md_findMinors_121 : decode b_Md_findMinors 121 = .ok (.aload_n 0, 1) := by decide +kernel
theorem d_Md_findMinors_122 : decode b_Md_findMinors 122 = .ok (.getfield 37, 3) := by decide +kernel
theorem d_Md_findMinors_125 : decode b_Md_findMinors 125 = .ok (.getfield 312, 3) := by decide +kernel
theorem d_Md_findMinors_128 : decode b_Md_findMinors 128 = .ok (.if_icmp .lt 6, 3) := by decide +kernel
theorem d_Md_findMinors_134 : decode b_Md_findMinors 134 = .ok (.iconst 0, 1) := by decide +kernel
