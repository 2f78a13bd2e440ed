theorem d_Md_alexander_27 : decode b_Md_alexander 27 = .ok (.if_icmp .le 4, 3) := by decide +kernel
theorem d_Md_alexander_30 : decode b_Md_alexander 30 = .ok (.return_, 1) := by decide +kernel
theorem d_Md_alexander_31 : decode b_Md_alexander 31 = .ok (.aload_n 0, 1) := by decide +kernel
theorem d_Md_alexander_32 : decode b_Md_alexander 32 = .ok (.invokevirtual 499, 3) := by decide +kernel
theorem d_Md_alexander_35 : decode b_Md_alexander 35 = .ok (.iconst 0, 1) := by decide +kernel
theorem d_Md_alexander_36 : decode b_Md_alexander 36 = .ok (.istore_n 2, 1) := by decide +kernel
theorem d_Md_alexander_37 : decode b_Md_alexander 37 = .ok (.iload_n 2, 1) := by decide +kernel
theorem d_Md_alexander_38 : decode b_Md_alexander 38 = .ok (.bipush 16, 2) := by decide +kernel
theorem d_Md_alexander_40 : decode b_Md_alexander 40 = .ok (.if_icmp .ge 16, 3) := by decide +kernel
theorem d_Md_alexander_43 : decode b_Md_alexander 43 = .ok (.aload_n 0, 1) := by decide +kernel
theorem d_Md_alexander_44 : decode b_Md_alexander 44 = .ok (.getfield 120, 3) := by decide +kernel
theorem d_Md_alexander_47 : decode b_Md_alexander 47 = .ok (.iload_n 2, 1) := by decide +kernel
theorem d_Md_alexander_48 : decode b_Md_alexander 48 = .ok (.lconst 0, 1) := by decide +kernel
theorem d_Md_alexander_49 : decode b_Md_alexander 49 = .ok (.lastore, 1) := by decide +kernel
theorem d_Md_alexander_50 : decode b_Md_alexander 50 = .ok (.iinc 2 1, 3) := by decide +kernel
theorem d_Md_alexander_53 : decode b_Md_alexander 53 = .ok (.goto (-16), 3) := by decide +kernel
theorem d_Md_alexander_56 : decode b_Md_alexander 56 = .ok (.iload_n 1, 1) := by decide +kernel
theorem d_Md_alexander_57 : decode b_Md_alexander 57 = .ok (.aload_n 0, 1) := by decide +kernel
theorem d_Md_alexander_58 : decode b_Md_alexander 58 = .ok (.getfield 37, 3) := by decide +kernel
theorem d_Md_alexander_61 : decode b_Md_alexander 61 = .ok (.getfield 312, 3) := by decide +kernel
theorem d_Md_alexander_64 : decode b_Md_alexander 64 = .ok (.if_icmp .ne 16, 3) := by decide +kernel
theorem d_Md_alexander_67 : decode b_Md_alexander 67 = .ok (.aload_n 0, 1) := by decide +kernel
theorem d_Md_alexander_68 : decode b_Md_alexander 68 = .ok (.iconst (-1), 1) := by decide +kernel
theorem d_Md_alexander_69 : decode b_Md_alexander 69 = .ok (.aload_n 0, 1) := by decide +kernel
theorem d_Md_alexander_70 : decode b_Md_alexander 70 = .ok (.getfield 459, 3) := by decide +kernel
theorem d_Md_alexander_73 : decode b_Md_alexander 73 = .ok (.iload_n 1, 1) := by decide +kernel
theorem d_Md_alexander_74 : decode b_Md_alexander 74 = .ok (.invokevirtual 502, 3) := by decide +kernel
theorem d_Md_alexander_77 : decode b_Md_alexander 77 = .ok (.goto 32, 3) := by decide +kernel
theorem d_Md_alexander_80 : decode b_Md_alexander 80 = .ok (.iconst 0, 1) := by decide +kernel
theorem d_Md_alexander_81 : decode b_Md_alexander 81 = .ok (.istore_n 2, 1) := by decide +kernel
theorem d_Md_alexander_82 : decode b_Md_alexander 82 = .ok (.iload_n 2, 1) := by decide +kernel
theorem d_Md_alexander_83 : decode b_Md_alexander 83 = .ok (.aload_n 0, 1) := by decide +kernel
theorem d_Md_alexander_84 : decode b_Md_alexander 84 = .ok (.getfield 37, 3) := by decide +kernel
theorem d_Md_alexander_87 : decode b_Md_alexander 87 = .ok (.getfield 312, 3) := by decide +kernel
theorem d_Md_alexander_90 : decode b_Md_alexander 90 = .ok (.if_icmp .ge 19, 3) := by decide +kernel
theorem d_Md_alexander_93 : decode b_Md_alexander 93 = .ok (.aload_n 0, 1) := by decide +kernel
theorem d_Md_alexander_94 : decode b_Md_alexander 94 = .ok (.iload_n 2, 1) := by decide +kernel
theorem d_Md_alexander_95 : decode b_Md_alexander 95 = .ok (.aload_n 0, 1) := by decide +kernel
theorem d_Md_alexander_96 : decode b_Md_alexander 96 = .ok (.getfield 459, 3) := by decide +kernel
theorem d_Md_alexander_99 : decode b_Md_alexander 99 = .ok (.iload_n 1, 1) := by decide +kernel
theorem d_Md_alexander_100 : decode b_Md_alexander 100 = .ok (.invokevirtual 502, 3) := by decide +kernel
theorem d_Md_alexander_103 : decode b_Md_alexander 103 = .ok (.iinc 2 1, 3) := by decide +kernel
theorem d_Md_alexander_106 : decode b_Md_alexander 106 = .ok (.goto (-24), 3) := by decide +kernel
theorem d_Md_alexander_109 : decode b_Md_alexander 109 = .ok (.aload_n 0, 1) := by decide +kernel
theorem d_Md_alexander_110 : decode b_Md_alexander 110 = .ok (.getfield 120, 3) := by decide +kernel
theorem d_Md_alexander_113 : decode b_Md_alexander 113 = .ok (.invokestatic 474, 3) := by decide +kernel
theorem d_Md_alexander_116 : decode b_Md_alexander 116 = .ok (.aload_n 0, 1) := by decide +kernel
theorem d_Md_alexander_117 : decode b_Md_alexander 117 = .ok (.getfield 120, 3) := by decide +kernel
theorem d_Md_alexander_120 : decode b_Md_alexander 120 = .ok (.iconst 0, 1) := by decide +kernel
theorem d_Md_alexander_121 : decode b_Md_alexander 121 = .ok (.laload, 1) := by decide +kernel
theorem d_Md_alexander_122 : decode b_Md_alexander 122 = .ok (.lconst 0, 1) := by decide +kernel
theorem d_Md_alexander_123 : decode b_Md_alexander 123 = .ok (.lcmp, 1) := by decide +kernel
theorem d_Md_alexander_124 : decode b_Md_alexander 124 = .ok (.ifCond .ge 9, 3) := by decide +kernel
theorem d_Md_alexander_127 : decode b_Md_alexander 127 = .ok (.ldc2_w 196, 3) := by decide +kernel
theorem d_Md_alexander_130 : decode b_Md_alexander 130 = .ok (.goto 4, 3) := by decide +kernel
theorem d_Md_alexander_133 : decode b_Md_alexander 133 = .ok (.lconst 1, 1) := by decide +kernel
theorem d_Md_alexander_134 : decode b_Md_alexander 134 = .ok (.lstore_n 2, 1) := by decide +kernel
theorem d_Md_alexander_135 : decode b_Md_alexander 135 = .ok (.iconst 0, 1) := by decide +kernel
theorem d_Md_alexander_136 : decode b_Md_alexander 136 = .ok (.istore 4, 2) := by decide +kernel
theorem d_Md_alexander_138 : decode b_Md_alexander 138 = .ok (.iload 4, 2) := by decide +kernel
theorem d_Md_alexander_140 : decode b_Md_alexander 140 = .ok (.bipush 16, 2) := by decide +kernel
theorem d_Md_alexander_142 : decode b_Md_alexander 142 = .ok (.if_icmp .ge 28, 3) := by decide +kernel
theorem d_Md_alexander_145 : decode b_Md_alexander 145 = .ok (.aload_n 0, 1) := by decide +kernel
theorem d_Md_alexander_146 : decode b_Md_alexander 146 = .ok (.getfield 96, 3) := by decide +kernel
theorem d_Md_alexander_149 : decode b_Md_alexander 149 = .ok (.bipush 100, 2) := by decide +kernel
theorem d_Md_alexander_151 : decode b_Md_alexander 151 = .ok (.iload 4, 2) := by decide +kernel
theorem d_Md_alexander_153 : decode b_Md_alexander 153 = .ok (.iadd, 1) := by decide +kernel
theorem d_Md_alexander_154 : decode b_Md_alexander 154 = .ok (.lload_n 2, 1) := by decide +kernel
theorem d_Md_alexander_155 : decode b_Md_alexander 155 = .ok (.aload_n 0, 1) := by decide +kernel
theorem d_Md_alexander_156 : decode b_Md_alexander 156 = .ok (.getfield 120, 3) := by decide +kernel
theorem d_Md_alexander_159 : decode b_Md_alexander 159 = .ok (.iload 4, 2) := by decide +kernel
theorem d_Md_alexander_161 : decode b_Md_alexander 161 = .ok (.laload, 1) := by decide +kernel
theorem d_Md_alexander_162 : decode b_Md_alexander 162 = .ok (.lmul, 1) := by decide +kernel
theorem d_Md_alexander_163 : decode b_Md_alexander 163 = .ok (.lastore, 1) := by decide +kernel
theorem d_Md_alexander_164 : decode b_Md_alexander 164 = .ok (.iinc 4 1, 3) := by decide +kernel
theorem d_Md_alexander_167 : decode b_Md_alexander 167 = .ok (.goto (-29), 3) := by decide +kernel
theorem d_Md_alexander_170 : decode b_Md_alexander 170 = .ok (.return_, 1) := by decide +kernel
theorem d_Md_answer_0 : decode b_Md_answer 0 = .ok (.aload_n 0, 1) := by decide +kernel
theorem d_Md_answer_1 : decode b_Md_answer 1 = .ok (.ldc_w 517, 3) := by decide +kernel
theorem d_Md_answer_4 : decode b_Md_answer 4 = .ok (.invokevirtual 519, 3) := by decide +kernel
theorem d_Md_answer_7 : decode b_Md_answer 7 = .ok (.aload_n 0, 1) := by decide +kernel
theorem d_Md_answer_8 : decode b_Md_answer 8 = .ok (.aload_n 1, 1) := by decide +kernel
theorem d_Md_answer_9 : decode b_Md_answer 9 = .ok (.invokevirtual 519, 3) := by decide +kernel
theorem d_Md_answer_12 : decode b_Md_answer 12 = .ok (.aload_n 0, 1) := by decide +kernel
theorem d_Md_answer_13 : decode b_Md_answer 13 = .ok (.bipush 10, 2) := by decide +kernel
theorem d_Md_answer_15 : decode b_Md_answer 15 = .ok (.invokevirtual 509, 3) := by decide +kernel
theorem d_Md_answer_18 : decode b_Md_answer 18 = .ok (.return_, 1) := by decide +kernel
theorem d_Md_answerIf_0 : decode b_Md_answerIf 0 = .ok (.aload_n 0, 1) := by decide +kernel
theorem d_Md_answerIf_1 : decode b_Md_answerIf 1 = .ok (.iload_n 1, 1) := by decide +kernel
theorem d_Md_answerIf_2 : decode b_Md_answerIf 2 = .ok (.ifCond .eq 9, 3) := by decide +kernel
theorem d_Md_answerIf_5 : decode b_Md_answerIf 5 = .ok (.ldc_w 523, 3) := by decide +kernel
theorem d_Md_answerIf_8 : decode b_Md_answerIf 8 = .ok (.goto 6, 3) := by decide +kernel
theorem d_Md_answerIf_11 : decode b_Md_answerIf 11 = .ok (.ldc_w 525, 3) := by decide +kernel
theorem d_Md_answerIf_14 : decode b_Md_answerIf 14 = .ok (.invokevirtual 527, 3) := by decide +kernel
theorem d_Md_answerIf_17 : decode b_Md_answerIf 17 = .ok (.return_, 1) := by decide +kernel
theorem d_Md_answerUndone_0 : decode b_Md_answerUndone 0 = .ok (.aload_n 0, 1) := by decide +kernel
theorem d_Md_answerUndone_1 : decode b_Md_answerUndone 1 = .ok (.ldc_w 575, 3) := by decide +kernel
theorem d_Md_answerUndone_4 : decode b_Md_answerUndone 4 = .ok (.invokevirtual 519, 3) := by decide +kernel
theorem d_Md_answerUndone_7 : decode b_Md_answerUndone 7 = .ok (.aload_n 0, 1) := by decide +kernel
theorem d_Md_answerUndone_8 : decode b_Md_answerUndone 8 = .ok (.iload_n 1, 1) := by decide +kernel
theorem d_Md_answerUndone_9 : decode b_Md_answerUndone 9 = .ok (.i2l, 1) := by decide +kernel
theorem d_Md_answerUndone_10 : decode b_Md_answerUndone 10 = .ok (.invokevirtual 536, 3) := by decide +kernel
theorem d_Md_answerUndone_13 : decode b_Md_answerUndone 13 = .ok (.aload_n 0, 1) := by decide +kernel
theorem d_Md_answerUndone_14 : decode b_Md_answerUndone 14 = .ok (.bipush 10, 2) := by decide +kernel
theorem d_Md_answerUndone_16 : decode b_Md_answerUndone 16 = .ok (.invokevirtual 509, 3) := by decide +kernel
theorem d_Md_answerUndone_19 : decode b_Md_answerUndone 19 = .ok (.return_, 1) := by decide +kernel
theorem d_Md_arrives_0 : decode b_Md_arrives 0 = .ok (.iload_n 1, 1) := by decide +kernel
theorem d_Md_arrives_1 : decode b_Md_arrives 1 = .ok (.iconst 1, 1) := by decide +kernel
theorem d_Md_arrives_2 : decode b_Md_arrives 2 = .ok (.iand, 1) := by decide +kernel
theorem d_Md_arrives_3 : decode b_Md_arrives 3 = .ok (.ifCond .ne 14, 3) := by decide +kernel
theorem d_Md_arrives_6 : decode b_Md_arrives 6 = .ok (.aload_n 0, 1) := by decide +kernel
theorem d_Md_arrives_7 : decode b_Md_arrives 7 = .ok (.getfield 72, 3) := by decide +kernel
theorem d_Md_arrives_10 : decode b_Md_arrives 10 = .ok (.iload_n 1, 1) := by decide +kernel
theorem d_Md_arrives_11 : decode b_Md_arrives 11 = .ok (.iconst 1, 1) := by decide +kernel
theorem d_Md_arrives_12 : decode b_Md_arrives 12 = .ok (.ishr, 1) := by decide +kernel
theorem d_Md_arrives_13 : decode b_Md_arrives 13 = .ok (.iaload, 1) := by decide +kernel
theorem d_Md_arrives_14 : decode b_Md_arrives 14 = .ok (.goto 11, 3) := by decide +kernel
theorem d_Md_arrives_17 : decode b_Md_arrives 17 = .ok (.aload_n 0, 1) := by decide +kernel
theorem d_Md_arrives_18 : decode b_Md_arrives 18 = .ok (.getfield 69, 3) := by decide +kernel
theorem d_Md_arrives_21 : decode b_Md_arrives 21 = .ok (.iload_n 1, 1) := by decide +kernel
theorem d_Md_arrives_22 : decode b_Md_arrives 22 = .ok (.iconst 1, 1) := by decide +kernel
theorem d_Md_arrives_23 : decode b_Md_arrives 23 = .ok (.ishr, 1) := by decide +kernel
theorem d_Md_arrives_24 : decode b_Md_arrives 24 = .ok (.iaload, 1) := by decide +kernel
theorem d_Md_arrives_25 : decode b_Md_arrives 25 = .ok (.ireturn, 1) := by decide +kernel
theorem d_Md_bracket_0 : decode b_Md_bracket 0 = .ok (.aload_n 0, 1) := by decide +kernel
theorem d_Md_bracket_1 : decode b_Md_bracket 1 = .ok (.invokevirtual 444, 3) := by decide +kernel
theorem d_Md_bracket_4 : decode b_Md_bracket 4 = .ok (.aload_n 0, 1) := by decide +kernel
theorem d_Md_bracket_5 : decode b_Md_bracket 5 = .ok (.getfield 37, 3) := by decide +kernel
theorem d_Md_bracket_8 : decode b_Md_bracket 8 = .ok (.getfield 312, 3) := by decide +kernel
theorem d_Md_bracket_11 : decode b_Md_bracket 11 = .ok (.ifCond .ne 22, 3) := by decide +kernel
theorem d_Md_bracket_14 : decode b_Md_bracket 14 = .ok (.aload_n 0, 1) := by decide +kernel
theorem d_Md_bracket_15 : decode b_Md_bracket 15 = .ok (.getfield 37, 3) := by decide +kernel
theorem d_Md_bracket_18 : decode b_Md_bracket 18 = .ok (.getfield 354, 3) := by decide +kernel
theorem d_Md_bracket_21 : decode b_Md_bracket 21 = .ok (.ifCond .ne 12, 3) := by decide +kernel
theorem d_Md_bracket_24 : decode b_Md_bracket 24 = .ok (.aload_n 0, 1) := by decide +kernel
theorem d_Md_bracket_25 : decode b_Md_bracket 25 = .ok (.getfield 96, 3) := by decide +kernel
theorem d_Md_bracket_28 : decode b_Md_bracket 28 = .ok (.bipush 100, 2) := by decide +kernel
theorem d_Md_bracket_30 : decode b_Md_bracket 30 = .ok (.lconst 1, 1) := by decide +kernel
theorem d_Md_bracket_31 : decode b_Md_bracket 31 = .ok (.lastore, 1) := by decide +kernel
theorem d_Md_bracket_32 : decode b_Md_bracket 32 = .ok (.return_, 1) := by decide +kernel
theorem d_Md_bracket_33 : decode b_Md_bracket 33 = .ok (.iconst 0, 1) := by decide +kernel
theorem d_Md_bracket_34 : decode b_Md_bracket 34 = .ok (.istore_n 1, 1) := by decide +kernel
theorem d_Md_bracket_35 : decode b_Md_bracket 35 = .ok (.iload_n 1, 1) := by decide +kernel
theorem d_Md_bracket_36 : decode b_Md_bracket 36 = .ok (.sipush 704, 3) := by decide +kernel
theorem d_Md_bracket_39 : decode b_Md_bracket 39 = .ok (.if_icmp .ge 16, 3) := by decide +kernel
theorem d_Md_bracket_42 : decode b_Md_bracket 42 = .ok (.aload_n 0, 1) := by decide +kernel
theorem d_Md_bracket_43 : decode b_Md_bracket 43 = .ok (.getfield 105, 3) := by decide +kernel
theorem d_Md_bracket_46 : decode b_Md_bracket 46 = .ok (.iload_n 1, 1) := by decide +kernel
theorem d_Md_bracket_47 : decode b_Md_bracket 47 = .ok (.lconst 0, 1) := by decide +kernel
theorem d_Md_bracket_48 : decode b_Md_bracket 48 = .ok (.lastore, 1) := by decide +kernel
theorem d_Md_bracket_49 : decode b_Md_bracket 49 = .ok (.iinc 1 1, 3) := by decide +kernel
theorem d_Md_bracket_52 : decode b_Md_bracket 52 = .ok (.goto (-17), 3) := by decide +kernel
theorem d_Md_bracket_55 : decode b_Md_bracket 55 = .ok (.iconst 0, 1) := by decide +kernel
theorem d_Md_bracket_56 : decode b_Md_bracket 56 = .ok (.istore_n 1, 1) := by decide +kernel
theorem d_Md_bracket_57 : decode b_Md_bracket 57 = .ok (.iload_n 1, 1) := by decide +kernel
theorem d_Md_bracket_58 : decode b_Md_bracket 58 = .ok (.iconst 1, 1) := by decide +kernel
theorem d_Md_bracket_59 : decode b_Md_bracket 59 = .ok (.aload_n 0, 1) := by decide +kernel
theorem d_Md_bracket_60 : decode b_Md_bracket 60 = .ok (.getfield 37, 3) := by decide +kernel
theorem d_Md_bracket_63 : decode b_Md_bracket 63 = .ok (.getfield 312, 3) := by decide +kernel
theorem d_Md_bracket_66 : decode b_Md_bracket 66 = .ok (.ishl, 1) := by decide +kernel
theorem d_Md_bracket_67 : decode b_Md_bracket 67 = .ok (.if_icmp .ge 57, 3) := by decide +kernel
theorem d_Md_bracket_70 : decode b_Md_bracket 70 = .ok (.iconst 0, 1) := by decide +kernel
theorem d_Md_bracket_71 : decode b_Md_bracket 71 = .ok (.istore_n 2, 1) := by decide +kernel
theorem d_Md_bracket_72 : decode b_Md_bracket 72 = .ok (.iconst 0, 1) := by decide +kernel
theorem d_Md_bracket_73 : decode b_Md_bracket 73 = .ok (.istore_n 3, 1) := by decide +kernel
theorem d_Md_bracket_74 : decode b_Md_bracket 74 = .ok (.iload_n 3, 1) := by decide +kernel
theorem d_Md_bracket_75 : decode b_Md_bracket 75 = .ok (.aload_n 0, 1) := by decide +kernel
theorem d_Md_bracket_76 : decode b_Md_bracket 76 = .ok (.getfield 37, 3) := by decide +kernel
theorem d_Md_bracket_79 : decode b_Md_bracket 79 = .ok (.getfield 312, 3) := by decide +kernel
theorem d_Md_bracket_82 : decode b_Md_bracket 82 = .ok (.if_icmp .ge 17, 3) := by decide +kernel
theorem d_Md_bracket_85 : decode b_Md_bracket 85 = .ok (.iload_n 2, 1) := by decide +kernel
theorem d_Md_bracket_86 : decode b_Md_bracket 86 = .ok (.iload_n 1, 1) := by decide +kernel
theorem d_Md_bracket_87 : decode b_Md_bracket 87 = .ok (.iload_n 3, 1) := by decide +kernel
theorem d_Md_bracket_88 : decode b_Md_bracket 88 = .ok (.ishr, 1) := by decide +kernel
theorem d_Md_bracket_89 : decode b_Md_bracket 89 = .ok (.iconst 1, 1) := by decide +kernel
theorem d_Md_bracket_90 : decode b_Md_bracket 90 = .ok (.iand, 1) := by decide +kernel
theorem d_Md_bracket_91 : decode b_Md_bracket 91 = .ok (.iadd, 1) := by decide +kernel
theorem d_Md_bracket_92 : decode b_Md_bracket 92 = .ok (.istore_n 2, 1) := by decide +kernel
theorem d_Md_bracket_93 : decode b_Md_bracket 93 = .ok (.iinc 3 1, 3) := by decide +kernel
theorem d_Md_bracket_96 : decode b_Md_bracket 96 = .ok (.goto (-22), 3) := by decide +kernel
theorem d_Md_bracket_99 : decode b_Md_bracket 99 = .ok (.aload_n 0, 1) := by decide +kernel
theorem d_Md_bracket_100 : decode b_Md_bracket 100 = .ok (.getfield 105, 3) := by decide +kernel
theorem d_Md_bracket_103 : decode b_Md_bracket 103 = .ok (.bipush 64, 2) := by decide +kernel
theorem d_Md_bracket_105 : decode b_Md_bracket 105 = .ok (.iload_n 2, 1) := by decide +kernel
theorem d_Md_bracket_106 : decode b_Md_bracket 106 = .ok (.imul, 1) := by decide +kernel
theorem d_Md_bracket_107 : decode b_Md_bracket 107 = .ok (.aload_n 0, 1) := by decide +kernel
theorem d_Md_bracket_108 : decode b_Md_bracket 108 = .ok (.iload_n 1, 1) := by decide +kernel
theorem d_Md_bracket_109 : decode b_Md_bracket 109 = .ok (.invokevirtual 447, 3) := by decide +kernel
theorem d_Md_bracket_112 : decode b_Md_bracket 112 = .ok (.iadd, 1) := by decide +kernel
theorem d_Md_bracket_113 : decode b_Md_bracket 113 = .ok (.dup2, 1) := by decide +kernel
theorem d_Md_bracket_114 : decode b_Md_bracket 114 = .ok (.laload, 1) := by decide +kernel
theorem d_Md_bracket_115 : decode b_Md_bracket 115 = .ok (.lconst 1, 1) := by decide +kernel
theorem d_Md_bracket_116 : decode b_Md_bracket 116 = .ok (.ladd, 1) := by decide +kernel
theorem d_Md_bracket_117 : decode b_Md_bracket 117 = .ok (.lastore, 1) := by decide +kernel
theorem d_Md_bracket_118 : decode b_Md_bracket 118 = .ok (.iinc 1 1, 3) := by decide +kernel
theorem d_Md_bracket_121 : decode b_Md_bracket 121 = .ok (.goto (-64), 3) := by decide +kernel
theorem d_Md_bracket_124 : decode b_Md_bracket 124 = .ok (.iconst 0, 1) := by decide +kernel
theorem d_Md_bracket_125 : decode b_Md_bracket 125 = .ok (.istore_n 1, 1) := by decide +kernel
theorem d_Md_bracket_126 : decode b_Md_bracket 126 = .ok (.iload_n 1, 1) := by decide +kernel
theorem d_Md_bracket_127 : decode b_Md_bracket 127 = .ok (.aload_n 0, 1) := by decide +kernel
