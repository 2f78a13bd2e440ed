theorem d_Md_same_74 : decode b_Md_same 74 = .ok (.aload_n 0, 1) := by decide +kernel
theorem d_Md_same_75 : decode b_Md_same 75 = .ok (.getfield 50, 3) := by decide +kernel
theorem d_Md_same_78 : decode b_Md_same 78 = .ok (.getfield 409, 3) := by decide +kernel
theorem d_Md_same_81 : decode b_Md_same 81 = .ok (.if_icmp .ge 73, 3) := by decide +kernel
theorem d_Md_same_154 : decode b_Md_same 154 = .ok (.iload_n 1, 1) := by decide +kernel
theorem d_Md_same_155 : decode b_Md_same 155 = .ok (.ireturn, 1) := by decide +kernel
theorem d_Md_form_0 : decode b_Md_form 0 = .ok (.iload_n 1, 1) := by decide +kernel
theorem d_Md_form_1 : decode b_Md_form 1 = .ok (.ifCond .eq 10, 3) := by decide +kernel
theorem d_Md_form_11 : decode b_Md_form 11 = .ok (.aload_n 0, 1) := by decide +kernel
theorem d_Md_form_12 : decode b_Md_form 12 = .ok (.getfield 50, 3) := by decide +kernel
theorem d_Md_form_15 : decode b_Md_form 15 = .ok (.astore 4, 2) := by decide +kernel
theorem d_Md_form_17 : decode b_Md_form 17 = .ok (.aload 4, 2) := by decide +kernel
theorem d_Md_form_19 : decode b_Md_form 19 = .ok (.invokestatic 437, 3) := by decide +kernel
theorem d_Md_form_22 : decode b_Md_form 22 = .ok (.iload_n 2, 1) := by decide +kernel
theorem d_Md_form_23 : decode b_Md_form 23 = .ok (.ifCond .ne 9, 3) := by decide +kernel
theorem d_Md_form_32 : decode b_Md_form 32 = .ok (.iload_n 2, 1) := by decide +kernel
theorem d_Md_form_33 : decode b_Md_form 33 = .ok (.iconst 1, 1) := by decide +kernel
theorem d_Md_form_34 : decode b_Md_form 34 = .ok (.if_icmp .lt 26, 3) := by decide +kernel
theorem d_Md_form_60 : decode b_Md_form 60 = .ok (.iconst 0, 1) := by decide +kernel
theorem d_Md_form_61 : decode b_Md_form 61 = .ok (.goto 18, 3) := by decide +kernel
theorem d_Md_form_79 : decode b_Md_form 79 = .ok (.ireturn, 1) := by decide +kernel
theorem d_Md_form_37 : decode b_Md_form 37 = .ok (.iload_n 2, 1) := by decide +kernel
theorem d_Md_form_38 : decode b_Md_form 38 = .ok (.aload 4, 2) := by decide +kernel
theorem d_Md_form_40 : decode b_Md_form 40 = .ok (.getfield 409, 3) := by decide +kernel
theorem d_Md_form_43 : decode b_Md_form 43 = .ok (.if_icmp .gt 17, 3) := by decide +kernel
theorem d_Md_form_26 : decode b_Md_form 26 = .ok (.aload 4, 2) := by decide +kernel
theorem d_Md_form_28 : decode b_Md_form 28 = .ok (.getfield 406, 3) := by decide +kernel
theorem d_Md_form_31 : decode b_Md_form 31 = .ok (.ireturn, 1) := by decide +kernel
theorem d_Md_form_4 : decode b_Md_form 4 = .ok (.aload_n 0, 1) := by decide +kernel
theorem d_Md_form_5 : decode b_Md_form 5 = .ok (.getfield 54, 3) := by decide +kernel
theorem d_Md_form_8 : decode b_Md_form 8 = .ok (.goto 7, 3) := by decide +kernel
theorem d_Md_length_0 : decode b_Md_length 0 = .ok (.iload_n 1, 1) := by decide +kernel
theorem d_Md_length_1 : decode b_Md_length 1 = .ok (.ifCond .eq 10, 3) := by decide +kernel
theorem d_Md_length_11 : decode b_Md_length 11 = .ok (.aload_n 0, 1) := by decide +kernel
theorem d_Md_length_12 : decode b_Md_length 12 = .ok (.getfield 50, 3) := by decide +kernel
theorem d_Md_length_15 : decode b_Md_length 15 = .ok (.astore_n 2, 1) := by decide +kernel
theorem d_Md_length_16 : decode b_Md_length 16 = .ok (.aload_n 2, 1) := by decide +kernel
theorem d_Md_length_17 : decode b_Md_length 17 = .ok (.invokestatic 437, 3) := by decide +kernel
theorem d_Md_length_20 : decode b_Md_length 20 = .ok (.aload_n 2, 1) := by decide +kernel
theorem d_Md_length_21 : decode b_Md_length 21 = .ok (.getfield 409, 3) := by decide +kernel
theorem d_Md_length_24 : decode b_Md_length 24 = .ok (.ireturn, 1) := by decide +kernel
theorem d_Md_length_4 : decode b_Md_length 4 = .ok (.aload_n 0, 1) := by decide +kernel
theorem d_Md_length_5 : decode b_Md_length 5 = .ok (.getfield 54, 3) := by decide +kernel
theorem d_Md_length_8 : decode b_Md_length 8 = .ok (.goto 7, 3) := by decide +kernel
theorem d_Md_findEdges_0 : decode b_Md_findEdges 0 = .ok (.aload_n 0, 1) := by decide +kernel
theorem d_Md_findEdges_1 : decode b_Md_findEdges 1 = .ok (.iconst 0, 1) := by decide +kernel
theorem d_Md_findEdges_2 : decode b_Md_findEdges 2 = .ok (.putfield 309, 3) := by decide +kernel
theorem d_Md_findEdges_5 : decode b_Md_findEdges 5 = .ok (.iconst 0, 1) := by decide +kernel
theorem d_Md_findEdges_6 : decode b_Md_findEdges 6 = .ok (.istore_n 1, 1) := by decide +kernel
theorem d_Md_findEdges_7 : decode b_Md_findEdges 7 = .ok (.iload_n 1, 1) := by decide +kernel
theorem d_Md_findEdges_8 : decode b_Md_findEdges 8 = .ok (.iconst 4, 1) := by decide +kernel
theorem d_Md_findEdges_9 : decode b_Md_findEdges 9 = .ok (.aload_n 0, 1) := by decide +kernel
theorem d_Md_findEdges_10 : decode b_Md_findEdges 10 = .ok (.getfield 37, 3) := by decide +kernel
theorem d_Md_findEdges_13 : decode b_Md_findEdges 13 = .ok (.getfield 312, 3) := by decide +kernel
theorem d_Md_findEdges_16 : decode b_Md_findEdges 16 = .ok (.imul, 1) := by decide +kernel
theorem d_Md_findEdges_17 : decode b_Md_findEdges 17 = .ok (.if_icmp .ge 115, 3) := by decide +kernel
theorem d_Md_findEdges_132 : decode b_Md_findEdges 132 = .ok (.iconst 0, 1) := by decide +kernel
theorem d_Md_findEdges_133 : decode b_Md_findEdges 133 = .ok (.istore_n 1, 1) := by decide +kernel
theorem d_Md_findEdges_134 : decode b_Md_findEdges 134 = .ok (.iload_n 1, 1) := by decide +kernel
theorem d_Md_findEdges_135 : decode b_Md_findEdges 135 = .ok (.iconst 4, 1) := by decide +kernel
theorem d_Md_findEdges_136 : decode b_Md_findEdges 136 = .ok (.aload_n 0, 1) := by decide +kernel
theorem d_Md_findEdges_137 : decode b_Md_findEdges 137 = .ok (.getfield 37, 3) := by decide +kernel
theorem d_Md_findEdges_140 : decode b_Md_findEdges 140 = .ok (.getfield 312, 3) := by decide +kernel
theorem d_Md_findEdges_143 : decode b_Md_findEdges 143 = .ok (.imul, 1) := by decide +kernel
theorem d_Md_findEdges_144 : decode b_Md_findEdges 144 = .ok (.if_icmp .ge 36, 3) := by decide +kernel
theorem d_Md_findEdges_180 : decode b_Md_findEdges 180 = .ok (.iconst 0, 1) := by decide +kernel
theorem d_Md_findEdges_181 : decode b_Md_findEdges 181 = .ok (.istore_n 1, 1) := by decide +kernel
theorem d_Md_findEdges_182 : decode b_Md_findEdges 182 = .ok (.iload_n 1, 1) := by decide +kernel
theorem d_Md_findEdges_183 : decode b_Md_findEdges 183 = .ok (.aload_n 0, 1) := by decide +kernel
theorem d_Md_findEdges_184 : decode b_Md_findEdges 184 = .ok (.getfield 309, 3) := by decide +kernel
theorem d_Md_findEdges_187 : decode b_Md_findEdges 187 = .ok (.if_icmp .ge 33, 3) := by decide +kernel
theorem d_Md_findEdges_220 : decode b_Md_findEdges 220 = .ok (.iconst 0, 1) := by decide +kernel
theorem d_Md_findEdges_221 : decode b_Md_findEdges 221 = .ok (.istore_n 1, 1) := by decide +kernel
theorem d_Md_findEdges_222 : decode b_Md_findEdges 222 = .ok (.iload_n 1, 1) := by decide +kernel
theorem d_Md_findEdges_223 : decode b_Md_findEdges 223 = .ok (.aload_n 0, 1) := by decide +kernel
theorem d_Md_findEdges_224 : decode b_Md_findEdges 224 = .ok (.getfield 309, 3) := by decide +kernel
theorem d_Md_findEdges_227 : decode b_Md_findEdges 227 = .ok (.if_icmp .ge 28, 3) := by decide +kernel
theorem d_Md_findEdges_255 : decode b_Md_findEdges 255 = .ok (.return_, 1) := by decide +kernel
theorem d_Md_findRounds_0 : decode b_Md_findRounds 0 = .ok (.aload_n 0, 1) := by decide +kernel
theorem d_Md_findRounds_1 : decode b_Md_findRounds 1 = .ok (.iconst 0, 1) := by decide +kernel
theorem d_Md_findRounds_2 : decode b_Md_findRounds 2 = .ok (.putfield 328, 3) := by decide +kernel
theorem d_Md_findRounds_5 : decode b_Md_findRounds 5 = .ok (.iconst 0, 1) := by decide +kernel
theorem d_Md_findRounds_6 : decode b_Md_findRounds 6 = .ok (.istore_n 1, 1) := by decide +kernel
theorem d_Md_findRounds_7 : decode b_Md_findRounds 7 = .ok (.iload_n 1, 1) := by decide +kernel
theorem d_Md_findRounds_8 : decode b_Md_findRounds 8 = .ok (.aload_n 0, 1) := by decide +kernel
theorem d_Md_findRounds_9 : decode b_Md_findRounds 9 = .ok (.getfield 309, 3) := by decide +kernel
theorem d_Md_findRounds_12 : decode b_Md_findRounds 12 = .ok (.if_icmp .ge 16, 3) := by decide +kernel
theorem d_Md_findRounds_28 : decode b_Md_findRounds 28 = .ok (.iconst 0, 1) := by decide +kernel
theorem d_Md_findRounds_29 : decode b_Md_findRounds 29 = .ok (.istore_n 1, 1) := by decide +kernel
theorem d_Md_findRounds_30 : decode b_Md_findRounds 30 = .ok (.iload_n 1, 1) := by decide +kernel
theorem d_Md_findRounds_31 : decode b_Md_findRounds 31 = .ok (.aload_n 0, 1) := by decide +kernel
theorem d_Md_findRounds_32 : decode b_Md_findRounds 32 = .ok (.getfield 309, 3) := by decide +kernel
theorem d_Md_findRounds_35 : decode b_Md_findRounds 35 = .ok (.if_icmp .ge 62, 3) := by decide +kernel
theorem d_Md_findRounds_97 : decode b_Md_findRounds 97 = .ok (.aload_n 0, 1) := by decide +kernel
theorem d_Md_findRounds_98 : decode b_Md_findRounds 98 = .ok (.iconst 0, 1) := by decide +kernel
theorem d_Md_findRounds_99 : decode b_Md_findRounds 99 = .ok (.putfield 331, 3) := by decide +kernel
theorem d_Md_findRounds_102 : decode b_Md_findRounds 102 = .ok (.iconst 0, 1) := by decide +kernel
theorem d_Md_findRounds_103 : decode b_Md_findRounds 103 = .ok (.istore_n 1, 1) := by decide +kernel
theorem d_Md_findRounds_104 : decode b_Md_findRounds 104 = .ok (.iload_n 1, 1) := by decide +kernel
theorem d_Md_findRounds_105 : decode b_Md_findRounds 105 = .ok (.iconst 2, 1) := by decide +kernel
theorem d_Md_findRounds_106 : decode b_Md_findRounds 106 = .ok (.aload_n 0, 1) := by decide +kernel
theorem d_Md_findRounds_107 : decode b_Md_findRounds 107 = .ok (.getfield 309, 3) := by decide +kernel
theorem d_Md_findRounds_110 : decode b_Md_findRounds 110 = .ok (.imul, 1) := by decide +kernel
theorem d_Md_findRounds_111 : decode b_Md_findRounds 111 = .ok (.if_icmp .ge 16, 3) := by decide +kernel
theorem d_Md_findRounds_127 : decode b_Md_findRounds 127 = .ok (.iconst 0, 1) := by decide +kernel
theorem d_Md_findRounds_128 : decode b_Md_findRounds 128 = .ok (.istore_n 1, 1) := by decide +kernel
theorem d_Md_findRounds_129 : decode b_Md_findRounds 129 = .ok (.iload_n 1, 1) := by decide +kernel
theorem d_Md_findRounds_130 : decode b_Md_findRounds 130 = .ok (.iconst 2, 1) := by decide +kernel
theorem d_Md_findRounds_131 : decode b_Md_findRounds 131 = .ok (.aload_n 0, 1) := by decide +kernel
theorem d_Md_findRounds_132 : decode b_Md_findRounds 132 = .ok (.getfield 309, 3) := by decide +kernel
theorem d_Md_findRounds_135 : decode b_Md_findRounds 135 = .ok (.imul, 1) := by decide +kernel
theorem d_Md_findRounds_136 : decode b_Md_findRounds 136 = .ok (.if_icmp .ge 71, 3) := by decide +kernel
theorem d_Md_findRounds_207 : decode b_Md_findRounds 207 = .ok (.return_, 1) := by decide +kernel
theorem d_Md_findPieces_0 : decode b_Md_findPieces 0 = .ok (.iconst 0, 1) := by decide +kernel
theorem d_Md_findPieces_1 : decode b_Md_findPieces 1 = .ok (.istore_n 1, 1) := by decide +kernel
theorem d_Md_findPieces_2 : decode b_Md_findPieces 2 = .ok (.iload_n 1, 1) := by decide +kernel
theorem d_Md_findPieces_3 : decode b_Md_findPieces 3 = .ok (.aload_n 0, 1) := by decide +kernel
theorem d_Md_findPieces_4 : decode b_Md_findPieces 4 = .ok (.getfield 37, 3) := by decide +kernel
theorem d_Md_findPieces_7 : decode b_Md_findPieces 7 = .ok (.getfield 312, 3) := by decide +kernel
theorem d_Md_findPieces_10 : decode b_Md_findPieces 10 = .ok (.if_icmp .ge 16, 3) := by decide +kernel
theorem d_Md_findPieces_26 : decode b_Md_findPieces 26 = .ok (.iconst 0, 1) := by decide +kernel
theorem d_Md_findPieces_27 : decode b_Md_findPieces 27 = .ok (.istore_n 1, 1) := by decide +kernel
theorem d_Md_findPieces_28 : decode b_Md_findPieces 28 = .ok (.iload_n 1, 1) := by decide +kernel
theorem d_Md_findPieces_29 : decode b_Md_findPieces 29 = .ok (.aload_n 0, 1) := by decide +kernel
theorem d_Md_findPieces_30 : decode b_Md_findPieces 30 = .ok (.getfield 309, 3) := by decide +kernel
theorem d_Md_findPieces_33 : decode b_Md_findPieces 33 = .ok (.if_icmp .ge 111, 3) := by decide +kernel
theorem d_Md_findPieces_144 : decode b_Md_findPieces 144 = .ok (.aload_n 0, 1) := by decide +kernel
theorem d_Md_findPieces_145 : decode b_Md_findPieces 145 = .ok (.iconst 0, 1) := by decide +kernel
theorem d_Md_findPieces_146 : decode b_Md_findPieces 146 = .ok (.putfield 336, 3) := by decide +kernel
theorem d_Md_findPieces_149 : decode b_Md_findPieces 149 = .ok (.iconst 0, 1) := by decide +kernel
theorem d_Md_findPieces_150 : decode b_Md_findPieces 150 = .ok (.istore_n 1, 1) := by decide +kernel
theorem d_Md_findPieces_151 : decode b_Md_findPieces 151 = .ok (.iload_n 1, 1) := by decide +kernel
theorem d_Md_findPieces_152 : decode b_Md_findPieces 152 = .ok (.aload_n 0, 1) := by decide +kernel
theorem d_Md_findPieces_153 : decode b_Md_findPieces 153 = .ok (.getfield 37, 3) := by decide +kernel
theorem d_Md_findPieces_156 : decode b_Md_findPieces 156 = .ok (.getfield 312, 3) := by decide +kernel
theorem d_Md_findPieces_159 : decode b_Md_findPieces 159 = .ok (.if_icmp .ge 33, 3) := by decide +kernel
theorem d_Md_findPieces_192 : decode b_Md_findPieces 192 = .ok (.return_, 1) := by decide +kernel
theorem d_Md_survey_0 : decode b_Md_survey 0 = .ok (.aload_n 0, 1) := by decide +kernel
theorem d_Md_survey_1 : decode b_Md_survey 1 = .ok (.invokevirtual 339, 3) := by decide +kernel
theorem d_Md_survey_4 : decode b_Md_survey 4 = .ok (.aload_n 0, 1) := by decide +kernel
theorem d_Md_survey_5 : decode b_Md_survey 5 = .ok (.invokevirtual 342, 3) := by decide +kernel
theorem d_Md_survey_8 : decode b_Md_survey 8 = .ok (.aload_n 0, 1) := by decide +kernel
theorem d_Md_survey_9 : decode b_Md_survey 9 = .ok (.invokevirtual 345, 3) := by decide +kernel
theorem d_Md_survey_12 : decode b_Md_survey 12 = .ok (.return_, 1) := by decide +kernel
theorem d_Md_signs_0 : decode b_Md_signs 0 = .ok (.iconst 0, 1) := by decide +kernel
theorem d_Md_signs_1 : decode b_Md_signs 1 = .ok (.istore_n 1, 1) := by decide +kernel
theorem d_Md_signs_2 : decode b_Md_signs 2 = .ok (.iconst 0, 1) := by decide +kernel
theorem d_Md_signs_3 : decode b_Md_signs 3 = .ok (.istore_n 2, 1) := by decide +kernel
theorem d_Md_signs_4 : decode b_Md_signs 4 = .ok (.iload_n 2, 1) := by decide +kernel
theorem d_Md_signs_5 : decode b_Md_signs 5 = .ok (.aload_n 0, 1) := by decide +kernel
theorem d_Md_signs_6 : decode b_Md_signs 6 = .ok (.getfield 37, 3) := by decide +kernel
theorem d_Md_signs_9 : decode b_Md_signs 9 = .ok (.getfield 312, 3) := by decide +kernel
theorem d_Md_signs_12 : decode b_Md_signs 12 = .ok (.if_icmp .ge 21, 3) := by decide +kernel
theorem d_Md_signs_33 : decode b_Md_signs 33 = .ok (.iload_n 1, 1) := by decide +kernel
theorem d_Md_signs_34 : decode b_Md_signs 34 = .ok (.ireturn, 1) := by decide +kernel
theorem d_Md_state_0 : decode b_Md_state 0 = .ok (.aload_n 0, 1) := by decide +kernel
theorem d_Md_state_1 : decode b_Md_state 1 = .ok (.invokevirtual 558, 3) := by decide +kernel
theorem d_Md_state_4 : decode b_Md_state 4 = .ok (.iload_n 1, 1) := by decide +kernel
theorem d_Md_state_5 : decode b_Md_state 5 = .ok (.tableswitch 126 0 7 #[47, 57, 82, 90, 98, 103, 116, 121], 47) := by decide +kernel
theorem d_Md_state_52 : decode b_Md_state 52 = .ok (.aload_n 0, 1) := by decide +kernel
theorem d_Md_state_53 : decode b_Md_state 53 = .ok (.getfield 284, 3) := by decide +kernel
theorem d_Md_state_56 : decode b_Md_state 56 = .ok (.aload_n 0, 1) := by decide +kernel
theorem d_Md_state_57 : decode b_Md_state 57 = .ok (.getfield 290, 3) := by decide +kernel
theorem d_Md_state_60 : decode b_Md_state 60 = .ok (.isub, 1) := by decide +kernel
theorem d_Md_state_61 : decode b_Md_state 61 = .ok (.ireturn, 1) := by decide +kernel
theorem d_Md_state_62 : decode b_Md_state 62 = .ok (.aload_n 0, 1) := by decide +kernel
theorem d_Md_state_63 : decode b_Md_state 63 = .ok (.getfield 290, 3) := by decide +kernel
theorem d_Md_state_66 : decode b_Md_state 66 = .ok (.aload_n 0, 1) := by decide +kernel
theorem d_Md_state_67 : decode b_Md_state 67 = .ok (.getfield 284, 3) := by decide +kernel
theorem d_Md_state_70 : decode b_Md_state 70 = .ok (.if_icmp .ge 15, 3) := by decide +kernel
theorem d_Md_state_85 : decode b_Md_state 85 = .ok (.iconst 0, 1) := by decide +kernel
theorem d_Md_state_86 : decode b_Md_state 86 = .ok (.ireturn, 1) := by decide +kernel
theorem d_Md_state_87 : decode b_Md_state 87 = .ok (.aload_n 0, 1) := by decide +kernel
theorem d_Md_state_88 : decode b_Md_state 88 = .ok (.getfield 37, 3) := by decide +kernel
theorem d_Md_state_91 : decode b_Md_state 91 = .ok (.getfield 312, 3) := by decide +kernel
theorem d_Md_state_94 : decode b_Md_state 94 = .ok (.ireturn, 1) := by decide +kernel
theorem d_Md_state_95 : decode b_Md_state 95 = .ok (.aload_n 0, 1) := by decide +kernel
theorem d_Md_state_96 : decode b_Md_state 96 = .ok (.getfield 37, 3) := by decide +kernel
theorem d_Md_state_99 : decode b_Md_state 99 = .ok (.getfield 354, 3) := by decide +kernel
theorem d_Md_state_102 : decode b_Md_state 102 = .ok (.ireturn, 1) := by decide +kernel
theorem d_Md_state_103 : decode b_Md_state 103 = .ok (.aload_n 0, 1) := by decide +kernel
theorem d_Md_state_104 : decode b_Md_state 104 = .ok (.invokevirtual 456, 3) := by decide +kernel
theorem d_Md_state_107 : decode b_Md_state 107 = .ok (.ireturn, 1) := by decide +kernel
theorem d_Md_state_108 : decode b_Md_state 108 = .ok (.aload_n 0, 1) := by decide +kernel
theorem d_Md_state_109 : decode b_Md_state 109 = .ok (.getfield 328, 3) := by decide +kernel
theorem d_Md_state_112 : decode b_Md_state 112 = .ok (.aload_n 0, 1) := by decide +kernel
theorem d_Md_state_113 : decode b_Md_state 113 = .ok (.getfield 37, 3) := by decide +kernel
theorem d_Md_state_116 : decode b_Md_state 116 = .ok (.getfield 354, 3) := by decide +kernel
theorem d_Md_state_119 : decode b_Md_state 119 = .ok (.iadd, 1) := by decide +kernel
theorem d_Md_state_120 : decode b_Md_state 120 = .ok (.ireturn, 1) := by decide +kernel
theorem d_Md_state_121 : decode b_Md_state 121 = .ok (.aload_n 0, 1) := by decide +kernel
theorem d_Md_state_122 : decode b_Md_state 122 = .ok (.getfield 674, 3) := by decide +kernel
theorem d_Md_state_125 : decode b_Md_state 125 = .ok (.ireturn, 1) := by decide +kernel
theorem d_Md_state_126 : decode b_Md_state 126 = .ok (.aload_n 0, 1) := by decide +kernel
theorem d_Md_state_127 : decode b_Md_state 127 = .ok (.getfield 296, 3) := by decide +kernel
theorem d_Md_state_130 : decode b_Md_state 130 = .ok (.ireturn, 1) := by decide +kernel
theorem d_Md_state_131 : decode b_Md_state 131 = .ok (.sipush (-1000), 3) := by decide +kernel
theorem d_Md_state_134 : decode b_Md_state 134 = .ok (.ireturn, 1) := by decide +kernel
theorem d_Arr_fill2_0 : decode b_Arr_fill2 0 = .ok (.iconst 0, 1) := by decide +kernel
theorem d_Arr_fill2_1 : decode b_Arr_fill2 1 = .ok (.istore_n 3, 1) := by decide +kernel
