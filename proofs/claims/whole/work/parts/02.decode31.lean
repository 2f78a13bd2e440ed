theorem d_Ss_splitAs_1 : decode b_Ss_splitAs 1 = .ok (.iload_n 1, 1) := by decide +kernel
theorem d_Ss_splitAs_2 : decode b_Ss_splitAs 2 = .ok (.imul, 1) := by decide +kernel
theorem d_Ss_splitAs_3 : decode b_Ss_splitAs 3 = .ok (.iload_n 2, 1) := by decide +kernel
theorem d_Ss_splitAs_4 : decode b_Ss_splitAs 4 = .ok (.iadd, 1) := by decide +kernel
theorem d_Ss_splitAs_5 : decode b_Ss_splitAs 5 = .ok (.istore 5, 2) := by decide +kernel
theorem d_Ss_splitAs_7 : decode b_Ss_splitAs 7 = .ok (.iload 5, 2) := by decide +kernel
theorem d_Ss_splitAs_9 : decode b_Ss_splitAs 9 = .ok (.iconst 1, 1) := by decide +kernel
theorem d_Ss_splitAs_10 : decode b_Ss_splitAs 10 = .ok (.iadd, 1) := by decide +kernel
theorem d_Ss_splitAs_11 : decode b_Ss_splitAs 11 = .ok (.istore 6, 2) := by decide +kernel
theorem d_Ss_splitAs_13 : decode b_Ss_splitAs 13 = .ok (.iload 5, 2) := by decide +kernel
theorem d_Ss_splitAs_15 : decode b_Ss_splitAs 15 = .ok (.iconst 2, 1) := by decide +kernel
theorem d_Ss_splitAs_16 : decode b_Ss_splitAs 16 = .ok (.iadd, 1) := by decide +kernel
theorem d_Ss_splitAs_17 : decode b_Ss_splitAs 17 = .ok (.istore 7, 2) := by decide +kernel
theorem d_Ss_splitAs_19 : decode b_Ss_splitAs 19 = .ok (.iconst 4, 1) := by decide +kernel
theorem d_Ss_splitAs_20 : decode b_Ss_splitAs 20 = .ok (.iload_n 1, 1) := by decide +kernel
theorem d_Ss_splitAs_21 : decode b_Ss_splitAs 21 = .ok (.imul, 1) := by decide +kernel
theorem d_Ss_splitAs_22 : decode b_Ss_splitAs 22 = .ok (.iload_n 2, 1) := by decide +kernel
theorem d_Ss_splitAs_23 : decode b_Ss_splitAs 23 = .ok (.iconst 3, 1) := by decide +kernel
theorem d_Ss_splitAs_24 : decode b_Ss_splitAs 24 = .ok (.iadd, 1) := by decide +kernel
theorem d_Ss_splitAs_25 : decode b_Ss_splitAs 25 = .ok (.iconst 3, 1) := by decide +kernel
theorem d_Ss_splitAs_26 : decode b_Ss_splitAs 26 = .ok (.iand, 1) := by decide +kernel
theorem d_Ss_splitAs_27 : decode b_Ss_splitAs 27 = .ok (.iadd, 1) := by decide +kernel
theorem d_Ss_splitAs_28 : decode b_Ss_splitAs 28 = .ok (.istore 8, 2) := by decide +kernel
theorem d_Ss_splitAs_30 : decode b_Ss_splitAs 30 = .ok (.aload_n 0, 1) := by decide +kernel
theorem d_Ss_splitAs_31 : decode b_Ss_splitAs 31 = .ok (.getfield 9, 3) := by decide +kernel
theorem d_Ss_splitAs_34 : decode b_Ss_splitAs 34 = .ok (.iload 5, 2) := by decide +kernel
theorem d_Ss_splitAs_36 : decode b_Ss_splitAs 36 = .ok (.iaload, 1) := by decide +kernel
theorem d_Ss_splitAs_37 : decode b_Ss_splitAs 37 = .ok (.istore 9, 2) := by decide +kernel
theorem d_Ss_splitAs_39 : decode b_Ss_splitAs 39 = .ok (.aload_n 0, 1) := by decide +kernel
theorem d_Ss_splitAs_40 : decode b_Ss_splitAs 40 = .ok (.getfield 9, 3) := by decide +kernel
theorem d_Ss_splitAs_43 : decode b_Ss_splitAs 43 = .ok (.iload 6, 2) := by decide +kernel
theorem d_Ss_splitAs_45 : decode b_Ss_splitAs 45 = .ok (.iaload, 1) := by decide +kernel
theorem d_Ss_splitAs_46 : decode b_Ss_splitAs 46 = .ok (.istore 10, 2) := by decide +kernel
theorem d_Ss_splitAs_48 : decode b_Ss_splitAs 48 = .ok (.aload_n 0, 1) := by decide +kernel
theorem d_Ss_splitAs_49 : decode b_Ss_splitAs 49 = .ok (.getfield 9, 3) := by decide +kernel
theorem d_Ss_splitAs_52 : decode b_Ss_splitAs 52 = .ok (.iload 9, 2) := by decide +kernel
theorem d_Ss_splitAs_54 : decode b_Ss_splitAs 54 = .ok (.iload 10, 2) := by decide +kernel
theorem d_Ss_splitAs_56 : decode b_Ss_splitAs 56 = .ok (.iastore, 1) := by decide +kernel
theorem d_Ss_splitAs_57 : decode b_Ss_splitAs 57 = .ok (.aload_n 0, 1) := by decide +kernel
theorem d_Ss_splitAs_58 : decode b_Ss_splitAs 58 = .ok (.getfield 9, 3) := by decide +kernel
theorem d_Ss_splitAs_61 : decode b_Ss_splitAs 61 = .ok (.iload 10, 2) := by decide +kernel
theorem d_Ss_splitAs_63 : decode b_Ss_splitAs 63 = .ok (.iload 9, 2) := by decide +kernel
theorem d_Ss_splitAs_65 : decode b_Ss_splitAs 65 = .ok (.iastore, 1) := by decide +kernel
theorem d_Ss_splitAs_66 : decode b_Ss_splitAs 66 = .ok (.aload_n 0, 1) := by decide +kernel
theorem d_Ss_splitAs_67 : decode b_Ss_splitAs 67 = .ok (.getfield 9, 3) := by decide +kernel
theorem d_Ss_splitAs_70 : decode b_Ss_splitAs 70 = .ok (.iload 7, 2) := by decide +kernel
theorem d_Ss_splitAs_72 : decode b_Ss_splitAs 72 = .ok (.iaload, 1) := by decide +kernel
theorem d_Ss_splitAs_73 : decode b_Ss_splitAs 73 = .ok (.istore 11, 2) := by decide +kernel
theorem d_Ss_splitAs_75 : decode b_Ss_splitAs 75 = .ok (.aload_n 0, 1) := by decide +kernel
theorem d_Ss_splitAs_76 : decode b_Ss_splitAs 76 = .ok (.getfield 9, 3) := by decide +kernel
theorem d_Ss_splitAs_79 : decode b_Ss_splitAs 79 = .ok (.iload 8, 2) := by decide +kernel
theorem d_Ss_splitAs_81 : decode b_Ss_splitAs 81 = .ok (.iaload, 1) := by decide +kernel
theorem d_Ss_splitAs_82 : decode b_Ss_splitAs 82 = .ok (.istore 12, 2) := by decide +kernel
theorem d_Ss_splitAs_84 : decode b_Ss_splitAs 84 = .ok (.aload_n 0, 1) := by decide +kernel
theorem d_Ss_splitAs_85 : decode b_Ss_splitAs 85 = .ok (.getfield 9, 3) := by decide +kernel
theorem d_Ss_splitAs_88 : decode b_Ss_splitAs 88 = .ok (.iload 11, 2) := by decide +kernel
theorem d_Ss_splitAs_90 : decode b_Ss_splitAs 90 = .ok (.iload 12, 2) := by decide +kernel
theorem d_Ss_splitAs_92 : decode b_Ss_splitAs 92 = .ok (.iastore, 1) := by decide +kernel
theorem d_Ss_splitAs_93 : decode b_Ss_splitAs 93 = .ok (.aload_n 0, 1) := by decide +kernel
theorem d_Ss_splitAs_94 : decode b_Ss_splitAs 94 = .ok (.getfield 9, 3) := by decide +kernel
theorem d_Ss_splitAs_97 : decode b_Ss_splitAs 97 = .ok (.iload 12, 2) := by decide +kernel
theorem d_Ss_splitAs_99 : decode b_Ss_splitAs 99 = .ok (.iload 11, 2) := by decide +kernel
theorem d_Ss_splitAs_101 : decode b_Ss_splitAs 101 = .ok (.iastore, 1) := by decide +kernel
theorem d_Ss_splitAs_102 : decode b_Ss_splitAs 102 = .ok (.iload 9, 2) := by decide +kernel
theorem d_Ss_splitAs_104 : decode b_Ss_splitAs 104 = .ok (.iload 6, 2) := by decide +kernel
theorem d_Ss_splitAs_106 : decode b_Ss_splitAs 106 = .ok (.if_icmp .ne 7, 3) := by decide +kernel
theorem d_Ss_splitAs_109 : decode b_Ss_splitAs 109 = .ok (.iconst 1, 1) := by decide +kernel
theorem d_Ss_splitAs_110 : decode b_Ss_splitAs 110 = .ok (.goto 4, 3) := by decide +kernel
theorem d_Ss_splitAs_113 : decode b_Ss_splitAs 113 = .ok (.iconst 0, 1) := by decide +kernel
theorem d_Ss_splitAs_114 : decode b_Ss_splitAs 114 = .ok (.iload 11, 2) := by decide +kernel
theorem d_Ss_splitAs_116 : decode b_Ss_splitAs 116 = .ok (.iload 8, 2) := by decide +kernel
theorem d_Ss_splitAs_118 : decode b_Ss_splitAs 118 = .ok (.if_icmp .ne 7, 3) := by decide +kernel
theorem d_Ss_splitAs_121 : decode b_Ss_splitAs 121 = .ok (.iconst 1, 1) := by decide +kernel
theorem d_Ss_splitAs_122 : decode b_Ss_splitAs 122 = .ok (.goto 4, 3) := by decide +kernel
theorem d_Ss_splitAs_125 : decode b_Ss_splitAs 125 = .ok (.iconst 0, 1) := by decide +kernel
theorem d_Ss_splitAs_126 : decode b_Ss_splitAs 126 = .ok (.iadd, 1) := by decide +kernel
theorem d_Ss_splitAs_127 : decode b_Ss_splitAs 127 = .ok (.istore 13, 2) := by decide +kernel
theorem d_Ss_splitAs_129 : decode b_Ss_splitAs 129 = .ok (.aload_n 0, 1) := by decide +kernel
theorem d_Ss_splitAs_130 : decode b_Ss_splitAs 130 = .ok (.iload_n 1, 1) := by decide +kernel
theorem d_Ss_splitAs_131 : decode b_Ss_splitAs 131 = .ok (.iconst 1, 1) := by decide +kernel
theorem d_Ss_splitAs_132 : decode b_Ss_splitAs 132 = .ok (.iadd, 1) := by decide +kernel
theorem d_Ss_splitAs_133 : decode b_Ss_splitAs 133 = .ok (.iload_n 3, 1) := by decide +kernel
theorem d_Ss_splitAs_134 : decode b_Ss_splitAs 134 = .ok (.iload 4, 2) := by decide +kernel
theorem d_Ss_splitAs_136 : decode b_Ss_splitAs 136 = .ok (.iload 13, 2) := by decide +kernel
theorem d_Ss_splitAs_138 : decode b_Ss_splitAs 138 = .ok (.iadd, 1) := by decide +kernel
theorem d_Ss_splitAs_139 : decode b_Ss_splitAs 139 = .ok (.invokevirtual 71, 3) := by decide +kernel
theorem d_Ss_splitAs_142 : decode b_Ss_splitAs 142 = .ok (.aload_n 0, 1) := by decide +kernel
theorem d_Ss_splitAs_143 : decode b_Ss_splitAs 143 = .ok (.getfield 9, 3) := by decide +kernel
theorem d_Ss_splitAs_146 : decode b_Ss_splitAs 146 = .ok (.iload 11, 2) := by decide +kernel
theorem d_Ss_splitAs_148 : decode b_Ss_splitAs 148 = .ok (.iload 7, 2) := by decide +kernel
theorem d_Ss_splitAs_150 : decode b_Ss_splitAs 150 = .ok (.iastore, 1) := by decide +kernel
theorem d_Ss_splitAs_151 : decode b_Ss_splitAs 151 = .ok (.aload_n 0, 1) := by decide +kernel
theorem d_Ss_splitAs_152 : decode b_Ss_splitAs 152 = .ok (.getfield 9, 3) := by decide +kernel
theorem d_Ss_splitAs_155 : decode b_Ss_splitAs 155 = .ok (.iload 12, 2) := by decide +kernel
theorem d_Ss_splitAs_157 : decode b_Ss_splitAs 157 = .ok (.iload 8, 2) := by decide +kernel
theorem d_Ss_splitAs_159 : decode b_Ss_splitAs 159 = .ok (.iastore, 1) := by decide +kernel
theorem d_Ss_splitAs_160 : decode b_Ss_splitAs 160 = .ok (.aload_n 0, 1) := by decide +kernel
theorem d_Ss_splitAs_161 : decode b_Ss_splitAs 161 = .ok (.getfield 9, 3) := by decide +kernel
theorem d_Ss_splitAs_164 : decode b_Ss_splitAs 164 = .ok (.iload 9, 2) := by decide +kernel
theorem d_Ss_splitAs_166 : decode b_Ss_splitAs 166 = .ok (.iload 5, 2) := by decide +kernel
theorem d_Ss_splitAs_168 : decode b_Ss_splitAs 168 = .ok (.iastore, 1) := by decide +kernel
theorem d_Ss_splitAs_169 : decode b_Ss_splitAs 169 = .ok (.aload_n 0, 1) := by decide +kernel
theorem d_Ss_splitAs_170 : decode b_Ss_splitAs 170 = .ok (.getfield 9, 3) := by decide +kernel
theorem d_Ss_splitAs_173 : decode b_Ss_splitAs 173 = .ok (.iload 10, 2) := by decide +kernel
theorem d_Ss_splitAs_175 : decode b_Ss_splitAs 175 = .ok (.iload 6, 2) := by decide +kernel
theorem d_Ss_splitAs_177 : decode b_Ss_splitAs 177 = .ok (.iastore, 1) := by decide +kernel
theorem d_Ss_splitAs_178 : decode b_Ss_splitAs 178 = .ok (.return_, 1) := by decide +kernel
theorem d_law_0 : decode code 0 = .ok (.new 7, 3) := by decide +kernel
theorem d_law_3 : decode code 3 = .ok (.dup, 1) := by decide +kernel
theorem d_law_4 : decode code 4 = .ok (.invokespecial 9, 3) := by decide +kernel
theorem d_law_7 : decode code 7 = .ok (.astore_n 1, 1) := by decide +kernel
theorem d_law_8 : decode code 8 = .ok (.new 10, 3) := by decide +kernel
theorem d_law_11 : decode code 11 = .ok (.dup, 1) := by decide +kernel
theorem d_law_12 : decode code 12 = .ok (.invokespecial 12, 3) := by decide +kernel
theorem d_law_15 : decode code 15 = .ok (.astore_n 2, 1) := by decide +kernel
theorem d_law_16 : decode code 16 = .ok (.iconst 0, 1) := by decide +kernel
theorem d_law_17 : decode code 17 = .ok (.istore_n 3, 1) := by decide +kernel
theorem d_law_18 : decode code 18 = .ok (.iload_n 3, 1) := by decide +kernel
theorem d_law_19 : decode code 19 = .ok (.aload_n 0, 1) := by decide +kernel
theorem d_law_20 : decode code 20 = .ok (.arraylength, 1) := by decide +kernel
theorem d_law_21 : decode code 21 = .ok (.bipush 6, 2) := by decide +kernel
theorem d_law_23 : decode code 23 = .ok (.isub, 1) := by decide +kernel
theorem d_law_24 : decode code 24 = .ok (.if_icmp .gt 435, 3) := by decide +kernel
theorem d_law_27 : decode code 27 = .ok (.aload_n 0, 1) := by decide +kernel
theorem d_law_28 : decode code 28 = .ok (.iload_n 3, 1) := by decide +kernel
theorem d_law_29 : decode code 29 = .ok (.iaload, 1) := by decide +kernel
theorem d_law_30 : decode code 30 = .ok (.bipush 15, 2) := by decide +kernel
theorem d_law_32 : decode code 32 = .ok (.iand, 1) := by decide +kernel
theorem d_law_33 : decode code 33 = .ok (.tableswitch 420 0 10 #[59, 122, 145, 168, 191, 214, 247, 270, 309, 322, 381], 59) := by decide +kernel
theorem d_law_92 : decode code 92 = .ok (.aload_n 1, 1) := by decide +kernel
theorem d_law_93 : decode code 93 = .ok (.aload_n 0, 1) := by decide +kernel
theorem d_law_94 : decode code 94 = .ok (.iload_n 3, 1) := by decide +kernel
theorem d_law_95 : decode code 95 = .ok (.iconst 1, 1) := by decide +kernel
theorem d_law_96 : decode code 96 = .ok (.iadd, 1) := by decide +kernel
theorem d_law_97 : decode code 97 = .ok (.iaload, 1) := by decide +kernel
theorem d_law_98 : decode code 98 = .ok (.aload_n 0, 1) := by decide +kernel
theorem d_law_99 : decode code 99 = .ok (.iload_n 3, 1) := by decide +kernel
theorem d_law_100 : decode code 100 = .ok (.iconst 2, 1) := by decide +kernel
theorem d_law_101 : decode code 101 = .ok (.iadd, 1) := by decide +kernel
theorem d_law_102 : decode code 102 = .ok (.iaload, 1) := by decide +kernel
theorem d_law_103 : decode code 103 = .ok (.aload_n 0, 1) := by decide +kernel
theorem d_law_104 : decode code 104 = .ok (.iload_n 3, 1) := by decide +kernel
theorem d_law_105 : decode code 105 = .ok (.iconst 3, 1) := by decide +kernel
theorem d_law_106 : decode code 106 = .ok (.iadd, 1) := by decide +kernel
theorem d_law_107 : decode code 107 = .ok (.iaload, 1) := by decide +kernel
theorem d_law_108 : decode code 108 = .ok (.aload_n 0, 1) := by decide +kernel
theorem d_law_109 : decode code 109 = .ok (.iload_n 3, 1) := by decide +kernel
theorem d_law_110 : decode code 110 = .ok (.iconst 4, 1) := by decide +kernel
theorem d_law_111 : decode code 111 = .ok (.iadd, 1) := by decide +kernel
theorem d_law_112 : decode code 112 = .ok (.iaload, 1) := by decide +kernel
theorem d_law_113 : decode code 113 = .ok (.aload_n 0, 1) := by decide +kernel
theorem d_law_114 : decode code 114 = .ok (.iload_n 3, 1) := by decide +kernel
theorem d_law_115 : decode code 115 = .ok (.iconst 5, 1) := by decide +kernel
theorem d_law_116 : decode code 116 = .ok (.iadd, 1) := by decide +kernel
theorem d_law_117 : decode code 117 = .ok (.iaload, 1) := by decide +kernel
theorem d_law_118 : decode code 118 = .ok (.invokevirtual 13, 3) := by decide +kernel
theorem d_law_121 : decode code 121 = .ok (.aload_n 2, 1) := by decide +kernel
theorem d_law_122 : decode code 122 = .ok (.aload_n 0, 1) := by decide +kernel
theorem d_law_123 : decode code 123 = .ok (.iload_n 3, 1) := by decide +kernel
theorem d_law_124 : decode code 124 = .ok (.iconst 1, 1) := by decide +kernel
theorem d_law_125 : decode code 125 = .ok (.iadd, 1) := by decide +kernel
theorem d_law_126 : decode code 126 = .ok (.iaload, 1) := by decide +kernel
theorem d_law_127 : decode code 127 = .ok (.aload_n 0, 1) := by decide +kernel
theorem d_law_128 : decode code 128 = .ok (.iload_n 3, 1) := by decide +kernel
theorem d_law_129 : decode code 129 = .ok (.iconst 2, 1) := by decide +kernel
theorem d_law_130 : decode code 130 = .ok (.iadd, 1) := by decide +kernel
theorem d_law_131 : decode code 131 = .ok (.iaload, 1) := by decide +kernel
theorem d_law_132 : decode code 132 = .ok (.aload_n 0, 1) := by decide +kernel
theorem d_law_133 : decode code 133 = .ok (.iload_n 3, 1) := by decide +kernel
theorem d_law_134 : decode code 134 = .ok (.iconst 3, 1) := by decide +kernel
theorem d_law_135 : decode code 135 = .ok (.iadd, 1) := by decide +kernel
theorem d_law_136 : decode code 136 = .ok (.iaload, 1) := by decide +kernel
theorem d_law_137 : decode code 137 = .ok (.aload_n 0, 1) := by decide +kernel
theorem d_law_138 : decode code 138 = .ok (.iload_n 3, 1) := by decide +kernel
theorem d_law_139 : decode code 139 = .ok (.iconst 4, 1) := by decide +kernel
theorem d_law_140 : decode code 140 = .ok (.iadd, 1) := by decide +kernel
theorem d_law_141 : decode code 141 = .ok (.iaload, 1) := by decide +kernel
theorem d_law_142 : decode code 142 = .ok (.aload_n 0, 1) := by decide +kernel
theorem d_law_143 : decode code 143 = .ok (.iload_n 3, 1) := by decide +kernel
theorem d_law_144 : decode code 144 = .ok (.iconst 5, 1) := by decide +kernel
theorem d_law_145 : decode code 145 = .ok (.iadd, 1) := by decide +kernel
theorem d_law_146 : decode code 146 = .ok (.iaload, 1) := by decide +kernel
theorem d_law_147 : decode code 147 = .ok (.invokevirtual 17, 3) := by decide +kernel
theorem d_law_150 : decode code 150 = .ok (.if_icmp .eq 303, 3) := by decide +kernel
theorem d_law_153 : decode code 153 = .ok (.iconst 0, 1) := by decide +kernel
theorem d_law_154 : decode code 154 = .ok (.ireturn, 1) := by decide +kernel
theorem d_law_155 : decode code 155 = .ok (.aload_n 1, 1) := by decide +kernel
theorem d_law_156 : decode code 156 = .ok (.aload_n 0, 1) := by decide +kernel
theorem d_law_157 : decode code 157 = .ok (.iload_n 3, 1) := by decide +kernel
theorem d_law_158 : decode code 158 = .ok (.iconst 1, 1) := by decide +kernel
theorem d_law_159 : decode code 159 = .ok (.iadd, 1) := by decide +kernel
theorem d_law_160 : decode code 160 = .ok (.iaload, 1) := by decide +kernel
theorem d_law_161 : decode code 161 = .ok (.invokevirtual 18, 3) := by decide +kernel
theorem d_law_164 : decode code 164 = .ok (.aload_n 2, 1) := by decide +kernel
theorem d_law_165 : decode code 165 = .ok (.aload_n 0, 1) := by decide +kernel
theorem d_law_166 : decode code 166 = .ok (.iload_n 3, 1) := by decide +kernel
theorem d_law_167 : decode code 167 = .ok (.iconst 1, 1) := by decide +kernel
theorem d_law_168 : decode code 168 = .ok (.iadd, 1) := by decide +kernel
theorem d_law_169 : decode code 169 = .ok (.iaload, 1) := by decide +kernel
theorem d_law_170 : decode code 170 = .ok (.invokevirtual 22, 3) := by decide +kernel
