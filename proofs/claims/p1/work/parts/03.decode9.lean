theorem d_Md_signs_6 : decode b_Md_signs 6 = .ok (.getfield 37, 3) := by decide +kernel
theorem d_Md_signs_9 : decode b_Md_signs 9 = .ok (.getfield 312, 3) := by decide +kernel
theorem d_Md_signs_12 : decode b_Md_signs 12 = .ok (.if_icmp .ge 21, 3) := by decide +kernel
theorem d_Md_signs_33 : decode b_Md_signs 33 = .ok (.iload_n 1, 1) := by decide +kernel
theorem d_Md_signs_34 : decode b_Md_signs 34 = .ok (.ireturn, 1) := by decide +kernel
theorem d_Md_state_0 : decode b_Md_state 0 = .ok (.aload_n 0, 1) := by decide +kernel
theorem d_Md_state_1 : decode b_Md_state 1 = .ok (.invokevirtual 558, 3) := by decide +kernel
theorem d_Md_state_4 : decode b_Md_state 4 = .ok (.iload_n 1, 1) := by decide +kernel
theorem d_Md_state_5 : decode b_Md_state 5 = .ok (.tableswitch 126 0 7 #[47, 57, 82, 90, 98, 103, 116, 121], 47) := by decide +kernel
theorem d_Md_state_52 : decode b_Md_state 52 = .ok (.aload_n 0, 1) := by decide +kernel
theorem d_Md_state_53 : decode b_Md_state 53 = .ok (.getfield 284, 3) := by decide +kernel
theorem d_Md_state_56 : decode b_Md_state 56 = .ok (.aload_n 0, 1) := by decide +kernel
theorem d_Md_state_57 : decode b_Md_state 57 = .ok (.getfield 290, 3) := by decide +kernel
theorem d_Md_state_60 : decode b_Md_state 60 = .ok (.isub, 1) := by decide +kernel
theorem d_Md_state_61 : decode b_Md_state 61 = .ok (.ireturn, 1) := by decide +kernel
theorem d_Md_state_62 : decode b_Md_state 62 = .ok (.aload_n 0, 1) := by decide +kernel
theorem d_Md_state_63 : decode b_Md_state 63 = .ok (.getfield 290, 3) := by decide +kernel
theorem d_Md_state_66 : decode b_Md_state 66 = .ok (.aload_n 0, 1) := by decide +kernel
theorem d_Md_state_67 : decode b_Md_state 67 = .ok (.getfield 284, 3) := by decide +kernel
theorem d_Md_state_70 : decode b_Md_state 70 = .ok (.if_icmp .ge 15, 3) := by decide +kernel
theorem d_Md_state_85 : decode b_Md_state 85 = .ok (.iconst 0, 1) := by decide +kernel
theorem d_Md_state_86 : decode b_Md_state 86 = .ok (.ireturn, 1) := by decide +kernel
theorem d_Md_state_87 : decode b_Md_state 87 = .ok (.aload_n 0, 1) := by decide +kernel
theorem d_Md_state_88 : decode b_Md_state 88 = .ok (.getfield 37, 3) := by decide +kernel
theorem d_Md_state_91 : decode b_Md_state 91 = .ok (.getfield 312, 3) := by decide +kernel
theorem d_Md_state_94 : decode b_Md_state 94 = .ok (.ireturn, 1) := by decide +kernel
theorem d_Md_state_95 : decode b_Md_state 95 = .ok (.aload_n 0, 1) := by decide +kernel
theorem d_Md_state_96 : decode b_Md_state 96 = .ok (.getfield 37, 3) := by decide +kernel
theorem d_Md_state_99 : decode b_Md_state 99 = .ok (.getfield 354, 3) := by decide +kernel
theorem d_Md_state_102 : decode b_Md_state 102 = .ok (.ireturn, 1) := by decide +kernel
theorem d_Md_state_103 : decode b_Md_state 103 = .ok (.aload_n 0, 1) := by decide +kernel
theorem d_Md_state_104 : decode b_Md_state 104 = .ok (.invokevirtual 456, 3) := by decide +kernel
theorem d_Md_state_107 : decode b_Md_state 107 = .ok (.ireturn, 1) := by decide +kernel
theorem d_Md_state_108 : decode b_Md_state 108 = .ok (.aload_n 0, 1) := by decide +kernel
theorem d_Md_state_109 : decode b_Md_state 109 = .ok (.getfield 328, 3) := by decide +kernel
theorem d_Md_state_112 : decode b_Md_state 112 = .ok (.aload_n 0, 1) := by decide +kernel
theorem d_Md_state_113 : decode b_Md_state 113 = .ok (.getfield 37, 3) := by decide +kernel
theorem d_Md_state_116 : decode b_Md_state 116 = .ok (.getfield 354, 3) := by decide +kernel
theorem d_Md_state_119 : decode b_Md_state 119 = .ok (.iadd, 1) := by decide +kernel
theorem d_Md_state_120 : decode b_Md_state 120 = .ok (.ireturn, 1) := by decide +kernel
theorem d_Md_state_121 : decode b_Md_state 121 = .ok (.aload_n 0, 1) := by decide +kernel
theorem d_Md_state_122 : decode b_Md_state 122 = .ok (.getfield 674, 3) := by decide +kernel
theorem d_Md_state_125 : decode b_Md_state 125 = .ok (.ireturn, 1) := by decide +kernel
theorem d_Md_state_126 : decode b_Md_state 126 = .ok (.aload_n 0, 1) := by decide +kernel
theorem d_Md_state_127 : decode b_Md_state 127 = .ok (.getfield 296, 3) := by decide +kernel
theorem d_Md_state_130 : decode b_Md_state 130 = .ok (.ireturn, 1) := by decide +kernel
theorem d_Md_state_131 : decode b_Md_state 131 = .ok (.sipush (-1000), 3) := by decide +kernel
theorem d_Md_state_134 : decode b_Md_state 134 = .ok (.ireturn, 1) := by decide +kernel
theorem d_law_0 : decode code 0 = .ok (.new 7, 3) := by decide +kernel
theorem d_law_3 : decode code 3 = .ok (.dup, 1) := by decide +kernel
theorem d_law_4 : decode code 4 = .ok (.invokespecial 9, 3) := by decide +kernel
theorem d_law_7 : decode code 7 = .ok (.astore_n 1, 1) := by decide +kernel
theorem d_law_8 : decode code 8 = .ok (.new 10, 3) := by decide +kernel
theorem d_law_11 : decode code 11 = .ok (.dup, 1) := by decide +kernel
theorem d_law_12 : decode code 12 = .ok (.invokespecial 12, 3) := by decide +kernel
theorem d_law_15 : decode code 15 = .ok (.astore_n 2, 1) := by decide +kernel
theorem d_law_16 : decode code 16 = .ok (.iconst 0, 1) := by decide +kernel
theorem d_law_17 : decode code 17 = .ok (.istore_n 3, 1) := by decide +kernel
theorem d_law_18 : decode code 18 = .ok (.iload_n 3, 1) := by decide +kernel
theorem d_law_19 : decode code 19 = .ok (.aload_n 0, 1) := by decide +kernel
theorem d_law_20 : decode code 20 = .ok (.arraylength, 1) := by decide +kernel
theorem d_law_21 : decode code 21 = .ok (.bipush 6, 2) := by decide +kernel
theorem d_law_23 : decode code 23 = .ok (.isub, 1) := by decide +kernel
theorem d_law_24 : decode code 24 = .ok (.if_icmp .gt 435, 3) := by decide +kernel
theorem d_law_459 : decode code 459 = .ok (.iconst 1, 1) := by decide +kernel
theorem d_law_460 : decode code 460 = .ok (.ireturn, 1) := by decide +kernel
theorem d_law_27 : decode code 27 = .ok (.aload_n 0, 1) := by decide +kernel
theorem d_law_28 : decode code 28 = .ok (.iload_n 3, 1) := by decide +kernel
theorem d_law_29 : decode code 29 = .ok (.iaload, 1) := by decide +kernel
theorem d_law_30 : decode code 30 = .ok (.bipush 15, 2) := by decide +kernel
theorem d_law_32 : decode code 32 = .ok (.iand, 1) := by decide +kernel
theorem d_law_33 : decode code 33 = .ok (.tableswitch 420 0 10 #[59, 122, 145, 168, 191, 214, 247, 270, 309, 322, 381], 59) := by decide +kernel
theorem d_law_92 : decode code 92 = .ok (.aload_n 1, 1) := by decide +kernel
theorem d_law_93 : decode code 93 = .ok (.aload_n 0, 1) := by decide +kernel
theorem d_law_94 : decode code 94 = .ok (.iload_n 3, 1) := by decide +kernel
theorem d_law_95 : decode code 95 = .ok (.iconst 1, 1) := by decide +kernel
theorem d_law_96 : decode code 96 = .ok (.iadd, 1) := by decide +kernel
theorem d_law_97 : decode code 97 = .ok (.iaload, 1) := by decide +kernel
theorem d_law_98 : decode code 98 = .ok (.aload_n 0, 1) := by decide +kernel
theorem d_law_99 : decode code 99 = .ok (.iload_n 3, 1) := by decide +kernel
theorem d_law_100 : decode code 100 = .ok (.iconst 2, 1) := by decide +kernel
theorem d_law_101 : decode code 101 = .ok (.iadd, 1) := by decide +kernel
theorem d_law_102 : decode code 102 = .ok (.iaload, 1) := by decide +kernel
theorem d_law_103 : decode code 103 = .ok (.aload_n 0, 1) := by decide +kernel
theorem d_law_104 : decode code 104 = .ok (.iload_n 3, 1) := by decide +kernel
theorem d_law_105 : decode code 105 = .ok (.iconst 3, 1) := by decide +kernel
theorem d_law_106 : decode code 106 = .ok (.iadd, 1) := by decide +kernel
theorem d_law_107 : decode code 107 = .ok (.iaload, 1) := by decide +kernel
theorem d_law_108 : decode code 108 = .ok (.aload_n 0, 1) := by decide +kernel
theorem d_law_109 : decode code 109 = .ok (.iload_n 3, 1) := by decide +kernel
theorem d_law_110 : decode code 110 = .ok (.iconst 4, 1) := by decide +kernel
theorem d_law_111 : decode code 111 = .ok (.iadd, 1) := by decide +kernel
theorem d_law_112 : decode code 112 = .ok (.iaload, 1) := by decide +kernel
theorem d_law_113 : decode code 113 = .ok (.aload_n 0, 1) := by decide +kernel
theorem d_law_114 : decode code 114 = .ok (.iload_n 3, 1) := by decide +kernel
theorem d_law_115 : decode code 115 = .ok (.iconst 5, 1) := by decide +kernel
theorem d_law_116 : decode code 116 = .ok (.iadd, 1) := by decide +kernel
theorem d_law_117 : decode code 117 = .ok (.iaload, 1) := by decide +kernel
theorem d_law_118 : decode code 118 = .ok (.invokevirtual 13, 3) := by decide +kernel
theorem d_law_121 : decode code 121 = .ok (.aload_n 2, 1) := by decide +kernel
theorem d_law_122 : decode code 122 = .ok (.aload_n 0, 1) := by decide +kernel
theorem d_law_123 : decode code 123 = .ok (.iload_n 3, 1) := by decide +kernel
theorem d_law_124 : decode code 124 = .ok (.iconst 1, 1) := by decide +kernel
theorem d_law_125 : decode code 125 = .ok (.iadd, 1) := by decide +kernel
theorem d_law_126 : decode code 126 = .ok (.iaload, 1) := by decide +kernel
theorem d_law_127 : decode code 127 = .ok (.aload_n 0, 1) := by decide +kernel
theorem d_law_128 : decode code 128 = .ok (.iload_n 3, 1) := by decide +kernel
theorem d_law_129 : decode code 129 = .ok (.iconst 2, 1) := by decide +kernel
theorem d_law_130 : decode code 130 = .ok (.iadd, 1) := by decide +kernel
theorem d_law_131 : decode code 131 = .ok (.iaload, 1) := by decide +kernel
theorem d_law_132 : decode code 132 = .ok (.aload_n 0, 1) := by decide +kernel
theorem d_law_133 : decode code 133 = .ok (.iload_n 3, 1) := by decide +kernel
theorem d_law_134 : decode code 134 = .ok (.iconst 3, 1) := by decide +kernel
theorem d_law_135 : decode code 135 = .ok (.iadd, 1) := by decide +kernel
theorem d_law_136 : decode code 136 = .ok (.iaload, 1) := by decide +kernel
theorem d_law_137 : decode code 137 = .ok (.aload_n 0, 1) := by decide +kernel
theorem d_law_138 : decode code 138 = .ok (.iload_n 3, 1) := by decide +kernel
theorem d_law_139 : decode code 139 = .ok (.iconst 4, 1) := by decide +kernel
theorem d_law_140 : decode code 140 = .ok (.iadd, 1) := by decide +kernel
theorem d_law_141 : decode code 141 = .ok (.iaload, 1) := by decide +kernel
theorem d_law_142 : decode code 142 = .ok (.aload_n 0, 1) := by decide +kernel
theorem d_law_143 : decode code 143 = .ok (.iload_n 3, 1) := by decide +kernel
theorem d_law_144 : decode code 144 = .ok (.iconst 5, 1) := by decide +kernel
theorem d_law_145 : decode code 145 = .ok (.iadd, 1) := by decide +kernel
theorem d_law_146 : decode code 146 = .ok (.iaload, 1) := by decide +kernel
theorem d_law_147 : decode code 147 = .ok (.invokevirtual 17, 3) := by decide +kernel
theorem d_law_150 : decode code 150 = .ok (.if_icmp .eq 303, 3) := by decide +kernel
theorem d_law_453 : decode code 453 = .ok (.iinc 3 6, 3) := by decide +kernel
theorem d_law_456 : decode code 456 = .ok (.goto (-438), 3) := by decide +kernel
theorem d_law_155 : decode code 155 = .ok (.aload_n 1, 1) := by decide +kernel
theorem d_law_156 : decode code 156 = .ok (.aload_n 0, 1) := by decide +kernel
theorem d_law_157 : decode code 157 = .ok (.iload_n 3, 1) := by decide +kernel
theorem d_law_158 : decode code 158 = .ok (.iconst 1, 1) := by decide +kernel
theorem d_law_159 : decode code 159 = .ok (.iadd, 1) := by decide +kernel
theorem d_law_160 : decode code 160 = .ok (.iaload, 1) := by decide +kernel
theorem d_law_161 : decode code 161 = .ok (.invokevirtual 18, 3) := by decide +kernel
theorem d_law_164 : decode code 164 = .ok (.aload_n 2, 1) := by decide +kernel
theorem d_law_165 : decode code 165 = .ok (.aload_n 0, 1) := by decide +kernel
theorem d_law_166 : decode code 166 = .ok (.iload_n 3, 1) := by decide +kernel
theorem d_law_167 : decode code 167 = .ok (.iconst 1, 1) := by decide +kernel
theorem d_law_168 : decode code 168 = .ok (.iadd, 1) := by decide +kernel
theorem d_law_169 : decode code 169 = .ok (.iaload, 1) := by decide +kernel
theorem d_law_170 : decode code 170 = .ok (.invokevirtual 22, 3) := by decide +kernel
theorem d_law_173 : decode code 173 = .ok (.if_icmp .eq 280, 3) := by decide +kernel
theorem d_law_178 : decode code 178 = .ok (.aload_n 1, 1) := by decide +kernel
theorem d_law_179 : decode code 179 = .ok (.aload_n 0, 1) := by decide +kernel
theorem d_law_180 : decode code 180 = .ok (.iload_n 3, 1) := by decide +kernel
theorem d_law_181 : decode code 181 = .ok (.iconst 1, 1) := by decide +kernel
theorem d_law_182 : decode code 182 = .ok (.iadd, 1) := by decide +kernel
theorem d_law_183 : decode code 183 = .ok (.iaload, 1) := by decide +kernel
