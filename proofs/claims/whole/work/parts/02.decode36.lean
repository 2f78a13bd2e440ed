theorem d_Md_bracket_128 : decode b_Md_bracket 128 = .ok (.getfield 37, 3) := by decide +kernel
theorem d_Md_bracket_131 : decode b_Md_bracket 131 = .ok (.getfield 312, 3) := by decide +kernel
theorem d_Md_bracket_134 : decode b_Md_bracket 134 = .ok (.if_icmp .gt 68, 3) := by decide +kernel
theorem d_Md_bracket_137 : decode b_Md_bracket 137 = .ok (.iconst 1, 1) := by decide +kernel
theorem d_Md_bracket_138 : decode b_Md_bracket 138 = .ok (.istore_n 2, 1) := by decide +kernel
theorem d_Md_bracket_139 : decode b_Md_bracket 139 = .ok (.iload_n 2, 1) := by decide +kernel
theorem d_Md_bracket_140 : decode b_Md_bracket 140 = .ok (.bipush 64, 2) := by decide +kernel
theorem d_Md_bracket_142 : decode b_Md_bracket 142 = .ok (.if_icmp .ge 54, 3) := by decide +kernel
theorem d_Md_bracket_145 : decode b_Md_bracket 145 = .ok (.aload_n 0, 1) := by decide +kernel
theorem d_Md_bracket_146 : decode b_Md_bracket 146 = .ok (.getfield 105, 3) := by decide +kernel
theorem d_Md_bracket_149 : decode b_Md_bracket 149 = .ok (.bipush 64, 2) := by decide +kernel
theorem d_Md_bracket_151 : decode b_Md_bracket 151 = .ok (.iload_n 1, 1) := by decide +kernel
theorem d_Md_bracket_152 : decode b_Md_bracket 152 = .ok (.imul, 1) := by decide +kernel
theorem d_Md_bracket_153 : decode b_Md_bracket 153 = .ok (.iload_n 2, 1) := by decide +kernel
theorem d_Md_bracket_154 : decode b_Md_bracket 154 = .ok (.iadd, 1) := by decide +kernel
theorem d_Md_bracket_155 : decode b_Md_bracket 155 = .ok (.laload, 1) := by decide +kernel
theorem d_Md_bracket_156 : decode b_Md_bracket 156 = .ok (.lconst 0, 1) := by decide +kernel
theorem d_Md_bracket_157 : decode b_Md_bracket 157 = .ok (.lcmp, 1) := by decide +kernel
theorem d_Md_bracket_158 : decode b_Md_bracket 158 = .ok (.ifCond .le 32, 3) := by decide +kernel
theorem d_Md_bracket_161 : decode b_Md_bracket 161 = .ok (.aload_n 0, 1) := by decide +kernel
theorem d_Md_bracket_162 : decode b_Md_bracket 162 = .ok (.iconst 2, 1) := by decide +kernel
theorem d_Md_bracket_163 : decode b_Md_bracket 163 = .ok (.iload_n 1, 1) := by decide +kernel
theorem d_Md_bracket_164 : decode b_Md_bracket 164 = .ok (.imul, 1) := by decide +kernel
theorem d_Md_bracket_165 : decode b_Md_bracket 165 = .ok (.aload_n 0, 1) := by decide +kernel
theorem d_Md_bracket_166 : decode b_Md_bracket 166 = .ok (.getfield 37, 3) := by decide +kernel
theorem d_Md_bracket_169 : decode b_Md_bracket 169 = .ok (.getfield 312, 3) := by decide +kernel
theorem d_Md_bracket_172 : decode b_Md_bracket 172 = .ok (.isub, 1) := by decide +kernel
theorem d_Md_bracket_173 : decode b_Md_bracket 173 = .ok (.iload_n 2, 1) := by decide +kernel
theorem d_Md_bracket_174 : decode b_Md_bracket 174 = .ok (.iconst 1, 1) := by decide +kernel
theorem d_Md_bracket_175 : decode b_Md_bracket 175 = .ok (.isub, 1) := by decide +kernel
theorem d_Md_bracket_176 : decode b_Md_bracket 176 = .ok (.aload_n 0, 1) := by decide +kernel
theorem d_Md_bracket_177 : decode b_Md_bracket 177 = .ok (.getfield 105, 3) := by decide +kernel
theorem d_Md_bracket_180 : decode b_Md_bracket 180 = .ok (.bipush 64, 2) := by decide +kernel
theorem d_Md_bracket_182 : decode b_Md_bracket 182 = .ok (.iload_n 1, 1) := by decide +kernel
theorem d_Md_bracket_183 : decode b_Md_bracket 183 = .ok (.imul, 1) := by decide +kernel
theorem d_Md_bracket_184 : decode b_Md_bracket 184 = .ok (.iload_n 2, 1) := by decide +kernel
theorem d_Md_bracket_185 : decode b_Md_bracket 185 = .ok (.iadd, 1) := by decide +kernel
theorem d_Md_bracket_186 : decode b_Md_bracket 186 = .ok (.laload, 1) := by decide +kernel
theorem d_Md_bracket_187 : decode b_Md_bracket 187 = .ok (.invokevirtual 450, 3) := by decide +kernel
theorem d_Md_bracket_190 : decode b_Md_bracket 190 = .ok (.iinc 2 1, 3) := by decide +kernel
theorem d_Md_bracket_193 : decode b_Md_bracket 193 = .ok (.goto (-54), 3) := by decide +kernel
theorem d_Md_bracket_196 : decode b_Md_bracket 196 = .ok (.iinc 1 1, 3) := by decide +kernel
theorem d_Md_bracket_199 : decode b_Md_bracket 199 = .ok (.goto (-73), 3) := by decide +kernel
theorem d_Md_bracket_202 : decode b_Md_bracket 202 = .ok (.return_, 1) := by decide +kernel
theorem d_Md_broken_0 : decode b_Md_broken 0 = .ok (.iconst 0, 1) := by decide +kernel
theorem d_Md_broken_1 : decode b_Md_broken 1 = .ok (.istore_n 1, 1) := by decide +kernel
theorem d_Md_broken_2 : decode b_Md_broken 2 = .ok (.iload_n 1, 1) := by decide +kernel
theorem d_Md_broken_3 : decode b_Md_broken 3 = .ok (.aload_n 0, 1) := by decide +kernel
theorem d_Md_broken_4 : decode b_Md_broken 4 = .ok (.getfield 37, 3) := by decide +kernel
theorem d_Md_broken_7 : decode b_Md_broken 7 = .ok (.getfield 312, 3) := by decide +kernel
theorem d_Md_broken_10 : decode b_Md_broken 10 = .ok (.if_icmp .ge 120, 3) := by decide +kernel
theorem d_Md_broken_13 : decode b_Md_broken 13 = .ok (.aload_n 0, 1) := by decide +kernel
theorem d_Md_broken_14 : decode b_Md_broken 14 = .ok (.getfield 90, 3) := by decide +kernel
theorem d_Md_broken_17 : decode b_Md_broken 17 = .ok (.iload_n 1, 1) := by decide +kernel
theorem d_Md_broken_18 : decode b_Md_broken 18 = .ok (.iaload, 1) := by decide +kernel
theorem d_Md_broken_19 : decode b_Md_broken 19 = .ok (.iload_n 1, 1) := by decide +kernel
theorem d_Md_broken_20 : decode b_Md_broken 20 = .ok (.if_icmp .eq 6, 3) := by decide +kernel
theorem d_Md_broken_23 : decode b_Md_broken 23 = .ok (.goto 101, 3) := by decide +kernel
theorem d_Md_broken_26 : decode b_Md_broken 26 = .ok (.iconst 0, 1) := by decide +kernel
theorem d_Md_broken_27 : decode b_Md_broken 27 = .ok (.istore_n 2, 1) := by decide +kernel
theorem d_Md_broken_28 : decode b_Md_broken 28 = .ok (.iconst 0, 1) := by decide +kernel
theorem d_Md_broken_29 : decode b_Md_broken 29 = .ok (.istore_n 3, 1) := by decide +kernel
theorem d_Md_broken_30 : decode b_Md_broken 30 = .ok (.iload_n 3, 1) := by decide +kernel
theorem d_Md_broken_31 : decode b_Md_broken 31 = .ok (.aload_n 0, 1) := by decide +kernel
theorem d_Md_broken_32 : decode b_Md_broken 32 = .ok (.getfield 37, 3) := by decide +kernel
theorem d_Md_broken_35 : decode b_Md_broken 35 = .ok (.getfield 312, 3) := by decide +kernel
theorem d_Md_broken_38 : decode b_Md_broken 38 = .ok (.if_icmp .ge 27, 3) := by decide +kernel
theorem d_Md_broken_41 : decode b_Md_broken 41 = .ok (.iload_n 2, 1) := by decide +kernel
theorem d_Md_broken_42 : decode b_Md_broken 42 = .ok (.aload_n 0, 1) := by decide +kernel
theorem d_Md_broken_43 : decode b_Md_broken 43 = .ok (.getfield 90, 3) := by decide +kernel
theorem d_Md_broken_46 : decode b_Md_broken 46 = .ok (.iload_n 3, 1) := by decide +kernel
theorem d_Md_broken_47 : decode b_Md_broken 47 = .ok (.iaload, 1) := by decide +kernel
theorem d_Md_broken_48 : decode b_Md_broken 48 = .ok (.iload_n 1, 1) := by decide +kernel
theorem d_Md_broken_49 : decode b_Md_broken 49 = .ok (.if_icmp .ne 7, 3) := by decide +kernel
theorem d_Md_broken_52 : decode b_Md_broken 52 = .ok (.iconst 1, 1) := by decide +kernel
theorem d_Md_broken_53 : decode b_Md_broken 53 = .ok (.goto 4, 3) := by decide +kernel
theorem d_Md_broken_56 : decode b_Md_broken 56 = .ok (.iconst 0, 1) := by decide +kernel
theorem d_Md_broken_57 : decode b_Md_broken 57 = .ok (.iadd, 1) := by decide +kernel
theorem d_Md_broken_58 : decode b_Md_broken 58 = .ok (.istore_n 2, 1) := by decide +kernel
theorem d_Md_broken_59 : decode b_Md_broken 59 = .ok (.iinc 3 1, 3) := by decide +kernel
theorem d_Md_broken_62 : decode b_Md_broken 62 = .ok (.goto (-32), 3) := by decide +kernel
theorem d_Md_broken_65 : decode b_Md_broken 65 = .ok (.iconst 0, 1) := by decide +kernel
theorem d_Md_broken_66 : decode b_Md_broken 66 = .ok (.istore_n 3, 1) := by decide +kernel
theorem d_Md_broken_67 : decode b_Md_broken 67 = .ok (.iconst 0, 1) := by decide +kernel
theorem d_Md_broken_68 : decode b_Md_broken 68 = .ok (.istore 4, 2) := by decide +kernel
theorem d_Md_broken_70 : decode b_Md_broken 70 = .ok (.iload 4, 2) := by decide +kernel
theorem d_Md_broken_72 : decode b_Md_broken 72 = .ok (.aload_n 0, 1) := by decide +kernel
theorem d_Md_broken_73 : decode b_Md_broken 73 = .ok (.getfield 331, 3) := by decide +kernel
theorem d_Md_broken_76 : decode b_Md_broken 76 = .ok (.if_icmp .ge 39, 3) := by decide +kernel
theorem d_Md_broken_79 : decode b_Md_broken 79 = .ok (.iload_n 3, 1) := by decide +kernel
theorem d_Md_broken_80 : decode b_Md_broken 80 = .ok (.aload_n 0, 1) := by decide +kernel
theorem d_Md_broken_81 : decode b_Md_broken 81 = .ok (.getfield 90, 3) := by decide +kernel
theorem d_Md_broken_84 : decode b_Md_broken 84 = .ok (.aload_n 0, 1) := by decide +kernel
theorem d_Md_broken_85 : decode b_Md_broken 85 = .ok (.aload_n 0, 1) := by decide +kernel
theorem d_Md_broken_86 : decode b_Md_broken 86 = .ok (.getfield 87, 3) := by decide +kernel
theorem d_Md_broken_89 : decode b_Md_broken 89 = .ok (.iload 4, 2) := by decide +kernel
theorem d_Md_broken_91 : decode b_Md_broken 91 = .ok (.iaload, 1) := by decide +kernel
theorem d_Md_broken_92 : decode b_Md_broken 92 = .ok (.invokevirtual 325, 3) := by decide +kernel
theorem d_Md_broken_95 : decode b_Md_broken 95 = .ok (.iconst 2, 1) := by decide +kernel
theorem d_Md_broken_96 : decode b_Md_broken 96 = .ok (.ishr, 1) := by decide +kernel
theorem d_Md_broken_97 : decode b_Md_broken 97 = .ok (.iaload, 1) := by decide +kernel
theorem d_Md_broken_98 : decode b_Md_broken 98 = .ok (.iload_n 1, 1) := by decide +kernel
theorem d_Md_broken_99 : decode b_Md_broken 99 = .ok (.if_icmp .ne 7, 3) := by decide +kernel
theorem d_Md_broken_102 : decode b_Md_broken 102 = .ok (.iconst 1, 1) := by decide +kernel
theorem d_Md_broken_103 : decode b_Md_broken 103 = .ok (.goto 4, 3) := by decide +kernel
theorem d_Md_broken_106 : decode b_Md_broken 106 = .ok (.iconst 0, 1) := by decide +kernel
theorem d_Md_broken_107 : decode b_Md_broken 107 = .ok (.iadd, 1) := by decide +kernel
theorem d_Md_broken_108 : decode b_Md_broken 108 = .ok (.istore_n 3, 1) := by decide +kernel
theorem d_Md_broken_109 : decode b_Md_broken 109 = .ok (.iinc 4 1, 3) := by decide +kernel
theorem d_Md_broken_112 : decode b_Md_broken 112 = .ok (.goto (-42), 3) := by decide +kernel
theorem d_Md_broken_115 : decode b_Md_broken 115 = .ok (.iload_n 3, 1) := by decide +kernel
theorem d_Md_broken_116 : decode b_Md_broken 116 = .ok (.iload_n 2, 1) := by decide +kernel
theorem d_Md_broken_117 : decode b_Md_broken 117 = .ok (.iconst 2, 1) := by decide +kernel
theorem d_Md_broken_118 : decode b_Md_broken 118 = .ok (.iadd, 1) := by decide +kernel
theorem d_Md_broken_119 : decode b_Md_broken 119 = .ok (.if_icmp .eq 5, 3) := by decide +kernel
theorem d_Md_broken_122 : decode b_Md_broken 122 = .ok (.iload_n 1, 1) := by decide +kernel
theorem d_Md_broken_123 : decode b_Md_broken 123 = .ok (.ireturn, 1) := by decide +kernel
theorem d_Md_broken_124 : decode b_Md_broken 124 = .ok (.iinc 1 1, 3) := by decide +kernel
theorem d_Md_broken_127 : decode b_Md_broken 127 = .ok (.goto (-125), 3) := by decide +kernel
theorem d_Md_broken_130 : decode b_Md_broken 130 = .ok (.iconst (-1), 1) := by decide +kernel
theorem d_Md_broken_131 : decode b_Md_broken 131 = .ok (.ireturn, 1) := by decide +kernel
theorem d_Md_change_0 : decode b_Md_change 0 = .ok (.aload_n 0, 1) := by decide +kernel
theorem d_Md_change_1 : decode b_Md_change 1 = .ok (.getfield 37, 3) := by decide +kernel
theorem d_Md_change_4 : decode b_Md_change 4 = .ok (.getfield 306, 3) := by decide +kernel
theorem d_Md_change_7 : decode b_Md_change 7 = .ok (.iload_n 1, 1) := by decide +kernel
theorem d_Md_change_8 : decode b_Md_change 8 = .ok (.iaload, 1) := by decide +kernel
theorem d_Md_change_9 : decode b_Md_change 9 = .ok (.iconst 1, 1) := by decide +kernel
theorem d_Md_change_10 : decode b_Md_change 10 = .ok (.if_icmp .ne 7, 3) := by decide +kernel
theorem d_Md_change_13 : decode b_Md_change 13 = .ok (.iconst 3, 1) := by decide +kernel
theorem d_Md_change_14 : decode b_Md_change 14 = .ok (.goto 4, 3) := by decide +kernel
theorem d_Md_change_17 : decode b_Md_change 17 = .ok (.iconst 1, 1) := by decide +kernel
theorem d_Md_change_18 : decode b_Md_change 18 = .ok (.istore_n 2, 1) := by decide +kernel
theorem d_Md_change_19 : decode b_Md_change 19 = .ok (.aload_n 0, 1) := by decide +kernel
theorem d_Md_change_20 : decode b_Md_change 20 = .ok (.getfield 37, 3) := by decide +kernel
theorem d_Md_change_23 : decode b_Md_change 23 = .ok (.getfield 306, 3) := by decide +kernel
theorem d_Md_change_26 : decode b_Md_change 26 = .ok (.iload_n 1, 1) := by decide +kernel
theorem d_Md_change_27 : decode b_Md_change 27 = .ok (.aload_n 0, 1) := by decide +kernel
theorem d_Md_change_28 : decode b_Md_change 28 = .ok (.getfield 37, 3) := by decide +kernel
theorem d_Md_change_31 : decode b_Md_change 31 = .ok (.getfield 306, 3) := by decide +kernel
theorem d_Md_change_34 : decode b_Md_change 34 = .ok (.iload_n 1, 1) := by decide +kernel
theorem d_Md_change_35 : decode b_Md_change 35 = .ok (.iaload, 1) := by decide +kernel
theorem d_Md_change_36 : decode b_Md_change 36 = .ok (.ineg, 1) := by decide +kernel
theorem d_Md_change_37 : decode b_Md_change 37 = .ok (.iastore, 1) := by decide +kernel
theorem d_Md_change_38 : decode b_Md_change 38 = .ok (.aload_n 0, 1) := by decide +kernel
theorem d_Md_change_39 : decode b_Md_change 39 = .ok (.iload_n 1, 1) := by decide +kernel
theorem d_Md_change_40 : decode b_Md_change 40 = .ok (.iload_n 2, 1) := by decide +kernel
theorem d_Md_change_41 : decode b_Md_change 41 = .ok (.invokevirtual 392, 3) := by decide +kernel
theorem d_Md_change_44 : decode b_Md_change 44 = .ok (.return_, 1) := by decide +kernel
theorem d_Md_changeAt_0 : decode b_Md_changeAt 0 = .ok (.iload_n 1, 1) := by decide +kernel
theorem d_Md_changeAt_1 : decode b_Md_changeAt 1 = .ok (.aload_n 0, 1) := by decide +kernel
theorem d_Md_changeAt_2 : decode b_Md_changeAt 2 = .ok (.getfield 37, 3) := by decide +kernel
theorem d_Md_changeAt_5 : decode b_Md_changeAt 5 = .ok (.getfield 312, 3) := by decide +kernel
theorem d_Md_changeAt_8 : decode b_Md_changeAt 8 = .ok (.if_icmp .lt 5, 3) := by decide +kernel
theorem d_Md_changeAt_11 : decode b_Md_changeAt 11 = .ok (.iconst 0, 1) := by decide +kernel
theorem d_Md_changeAt_12 : decode b_Md_changeAt 12 = .ok (.ireturn, 1) := by decide +kernel
theorem d_Md_changeAt_13 : decode b_Md_changeAt 13 = .ok (.aload_n 0, 1) := by decide +kernel
theorem d_Md_changeAt_14 : decode b_Md_changeAt 14 = .ok (.iload_n 1, 1) := by decide +kernel
theorem d_Md_changeAt_15 : decode b_Md_changeAt 15 = .ok (.invokevirtual 592, 3) := by decide +kernel
theorem d_Md_changeAt_18 : decode b_Md_changeAt 18 = .ok (.iconst 1, 1) := by decide +kernel
theorem d_Md_changeAt_19 : decode b_Md_changeAt 19 = .ok (.ireturn, 1) := by decide +kernel
theorem d_Md_circlesOf_0 : decode b_Md_circlesOf 0 = .ok (.aload_n 0, 1) := by decide +kernel
theorem d_Md_circlesOf_1 : decode b_Md_circlesOf 1 = .ok (.getfield 309, 3) := by decide +kernel
theorem d_Md_circlesOf_4 : decode b_Md_circlesOf 4 = .ok (.aload_n 0, 1) := by decide +kernel
theorem d_Md_circlesOf_5 : decode b_Md_circlesOf 5 = .ok (.getfield 37, 3) := by decide +kernel
theorem d_Md_circlesOf_8 : decode b_Md_circlesOf 8 = .ok (.getfield 354, 3) := by decide +kernel
theorem d_Md_circlesOf_11 : decode b_Md_circlesOf 11 = .ok (.iadd, 1) := by decide +kernel
theorem d_Md_circlesOf_12 : decode b_Md_circlesOf 12 = .ok (.istore_n 2, 1) := by decide +kernel
theorem d_Md_circlesOf_13 : decode b_Md_circlesOf 13 = .ok (.iconst 0, 1) := by decide +kernel
theorem d_Md_circlesOf_14 : decode b_Md_circlesOf 14 = .ok (.istore_n 3, 1) := by decide +kernel
theorem d_Md_circlesOf_15 : decode b_Md_circlesOf 15 = .ok (.iload_n 3, 1) := by decide +kernel
theorem d_Md_circlesOf_16 : decode b_Md_circlesOf 16 = .ok (.aload_n 0, 1) := by decide +kernel
theorem d_Md_circlesOf_17 : decode b_Md_circlesOf 17 = .ok (.getfield 309, 3) := by decide +kernel
theorem d_Md_circlesOf_20 : decode b_Md_circlesOf 20 = .ok (.if_icmp .ge 16, 3) := by decide +kernel
theorem d_Md_circlesOf_23 : decode b_Md_circlesOf 23 = .ok (.aload_n 0, 1) := by decide +kernel
theorem d_Md_circlesOf_24 : decode b_Md_circlesOf 24 = .ok (.getfield 102, 3) := by decide +kernel
theorem d_Md_circlesOf_27 : decode b_Md_circlesOf 27 = .ok (.iload_n 3, 1) := by decide +kernel
theorem d_Md_circlesOf_28 : decode b_Md_circlesOf 28 = .ok (.iload_n 3, 1) := by decide +kernel
theorem d_Md_circlesOf_29 : decode b_Md_circlesOf 29 = .ok (.iastore, 1) := by decide +kernel
theorem d_Md_circlesOf_30 : decode b_Md_circlesOf 30 = .ok (.iinc 3 1, 3) := by decide +kernel
theorem d_Md_circlesOf_33 : decode b_Md_circlesOf 33 = .ok (.goto (-18), 3) := by decide +kernel
theorem d_Md_circlesOf_36 : decode b_Md_circlesOf 36 = .ok (.iconst 0, 1) := by decide +kernel
theorem d_Md_circlesOf_37 : decode b_Md_circlesOf 37 = .ok (.istore_n 3, 1) := by decide +kernel
theorem d_Md_circlesOf_38 : decode b_Md_circlesOf 38 = .ok (.iload_n 3, 1) := by decide +kernel
theorem d_Md_circlesOf_39 : decode b_Md_circlesOf 39 = .ok (.aload_n 0, 1) := by decide +kernel
theorem d_Md_circlesOf_40 : decode b_Md_circlesOf 40 = .ok (.getfield 37, 3) := by decide +kernel
theorem d_Md_circlesOf_43 : decode b_Md_circlesOf 43 = .ok (.getfield 312, 3) := by decide +kernel
theorem d_Md_circlesOf_46 : decode b_Md_circlesOf 46 = .ok (.if_icmp .ge 112, 3) := by decide +kernel
theorem d_Md_circlesOf_49 : decode b_Md_circlesOf 49 = .ok (.iload_n 1, 1) := by decide +kernel
theorem d_Md_circlesOf_50 : decode b_Md_circlesOf 50 = .ok (.iload_n 3, 1) := by decide +kernel
theorem d_Md_circlesOf_51 : decode b_Md_circlesOf 51 = .ok (.ishr, 1) := by decide +kernel
theorem d_Md_circlesOf_52 : decode b_Md_circlesOf 52 = .ok (.iconst 1, 1) := by decide +kernel
theorem d_Md_circlesOf_53 : decode b_Md_circlesOf 53 = .ok (.iand, 1) := by decide +kernel
theorem d_Md_circlesOf_54 : decode b_Md_circlesOf 54 = .ok (.iconst 1, 1) := by decide +kernel
theorem d_Md_circlesOf_55 : decode b_Md_circlesOf 55 = .ok (.if_icmp .ne 7, 3) := by decide +kernel
theorem d_Md_circlesOf_58 : decode b_Md_circlesOf 58 = .ok (.iconst 0, 1) := by decide +kernel
theorem d_Md_circlesOf_59 : decode b_Md_circlesOf 59 = .ok (.goto 4, 3) := by decide +kernel
theorem d_Md_circlesOf_62 : decode b_Md_circlesOf 62 = .ok (.iconst 1, 1) := by decide +kernel
theorem d_Md_circlesOf_63 : decode b_Md_circlesOf 63 = .ok (.istore 4, 2) := by decide +kernel
theorem d_Md_circlesOf_65 : decode b_Md_circlesOf 65 = .ok (.iconst 0, 1) := by decide +kernel
theorem d_Md_circlesOf_66 : decode b_Md_circlesOf 66 = .ok (.istore 5, 2) := by decide +kernel
