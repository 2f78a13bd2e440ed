theorem d_Md_same_106 : decode b_Md_same 106 = .ok (.getfield 50, 3) := by decide +kernel
theorem d_Md_same_109 : decode b_Md_same 109 = .ok (.getfield 403, 3) := by decide +kernel
theorem d_Md_same_112 : decode b_Md_same 112 = .ok (.bipush 9, 2) := by decide +kernel
theorem d_Md_same_114 : decode b_Md_same 114 = .ok (.iload_n 2, 1) := by decide +kernel
theorem d_Md_same_115 : decode b_Md_same 115 = .ok (.imul, 1) := by decide +kernel
theorem d_Md_same_116 : decode b_Md_same 116 = .ok (.iload_n 3, 1) := by decide +kernel
theorem d_Md_same_117 : decode b_Md_same 117 = .ok (.iadd, 1) := by decide +kernel
theorem d_Md_same_118 : decode b_Md_same 118 = .ok (.iaload, 1) := by decide +kernel
theorem d_Md_same_119 : decode b_Md_same 119 = .ok (.aload_n 0, 1) := by decide +kernel
theorem d_Md_same_120 : decode b_Md_same 120 = .ok (.getfield 54, 3) := by decide +kernel
theorem d_Md_same_123 : decode b_Md_same 123 = .ok (.getfield 403, 3) := by decide +kernel
theorem d_Md_same_126 : decode b_Md_same 126 = .ok (.bipush 9, 2) := by decide +kernel
theorem d_Md_same_128 : decode b_Md_same 128 = .ok (.iload_n 2, 1) := by decide +kernel
theorem d_Md_same_129 : decode b_Md_same 129 = .ok (.imul, 1) := by decide +kernel
theorem d_Md_same_130 : decode b_Md_same 130 = .ok (.iload_n 3, 1) := by decide +kernel
theorem d_Md_same_131 : decode b_Md_same 131 = .ok (.iadd, 1) := by decide +kernel
theorem d_Md_same_132 : decode b_Md_same 132 = .ok (.iaload, 1) := by decide +kernel
theorem d_Md_same_133 : decode b_Md_same 133 = .ok (.if_icmp .ne 7, 3) := by decide +kernel
theorem d_Md_same_136 : decode b_Md_same 136 = .ok (.iconst 1, 1) := by decide +kernel
theorem d_Md_same_137 : decode b_Md_same 137 = .ok (.goto 4, 3) := by decide +kernel
theorem d_Md_same_84 : decode b_Md_same 84 = .ok (.iload_n 1, 1) := by decide +kernel
theorem d_Md_same_85 : decode b_Md_same 85 = .ok (.ifCond .eq 69, 3) := by decide +kernel
theorem d_Md_same_88 : decode b_Md_same 88 = .ok (.iconst 1, 1) := by decide +kernel
theorem d_Md_same_89 : decode b_Md_same 89 = .ok (.istore_n 3, 1) := by decide +kernel
theorem d_Md_same_69 : decode b_Md_same 69 = .ok (.iconst 0, 1) := by decide +kernel
theorem d_Md_meetMinors_107 : decode b_Md_meetMinors 107 = .ok (.iinc 4 1, 3) := by decide +kernel
theorem d_Md_meetMinors_110 : decode b_Md_meetMinors 110 = .ok (.goto (-101), 3) := by decide +kernel
theorem d_Md_meetMinors_96 : decode b_Md_meetMinors 96 = .ok (.lastore, 1) := by decide +kernel
theorem d_Md_meetMinors_97 : decode b_Md_meetMinors 97 = .ok (.iinc 6 1, 3) := by decide +kernel
theorem d_Md_meetMinors_100 : decode b_Md_meetMinors 100 = .ok (.goto (-41), 3) := by decide +kernel
theorem d_Md_meetMinors_59 : decode b_Md_meetMinors 59 = .ok (.iload 6, 2) := by decide +kernel
theorem d_Md_meetMinors_61 : decode b_Md_meetMinors 61 = .ok (.bipush 16, 2) := by decide +kernel
theorem d_Md_meetMinors_63 : decode b_Md_meetMinors 63 = .ok (.if_icmp .ge 40, 3) := by decide +kernel
theorem d_Md_meetMinors_103 : decode b_Md_meetMinors 103 = .ok (.aload_n 0, 1) := by decide +kernel
theorem d_Md_meetMinors_104 : decode b_Md_meetMinors 104 = .ok (.invokevirtual 493, 3) := by decide +kernel
theorem d_Md_meetMinors_66 : decode b_Md_meetMinors 66 = .ok (.aload_n 0, 1) := by decide +kernel
theorem d_Md_meetMinors_67 : decode b_Md_meetMinors 67 = .ok (.getfield 123, 3) := by decide +kernel
theorem d_Md_meetMinors_70 : decode b_Md_meetMinors 70 = .ok (.iload 6, 2) := by decide +kernel
theorem d_Md_meetMinors_72 : decode b_Md_meetMinors 72 = .ok (.iload 6, 2) := by decide +kernel
theorem d_Md_meetMinors_74 : decode b_Md_meetMinors 74 = .ok (.bipush 12, 2) := by decide +kernel
theorem d_Md_meetMinors_76 : decode b_Md_meetMinors 76 = .ok (.if_icmp .ge 19, 3) := by decide +kernel
theorem d_Md_meetMinors_95 : decode b_Md_meetMinors 95 = .ok (.lconst 0, 1) := by decide +kernel
theorem d_Md_meetMinors_79 : decode b_Md_meetMinors 79 = .ok (.aload_n 0, 1) := by decide +kernel
theorem d_Md_meetMinors_80 : decode b_Md_meetMinors 80 = .ok (.getfield 117, 3) := by decide +kernel
theorem d_Md_meetMinors_83 : decode b_Md_meetMinors 83 = .ok (.bipush 12, 2) := by decide +kernel
theorem d_Md_meetMinors_85 : decode b_Md_meetMinors 85 = .ok (.iload 4, 2) := by decide +kernel
theorem d_Md_meetMinors_87 : decode b_Md_meetMinors 87 = .ok (.imul, 1) := by decide +kernel
theorem d_Md_meetMinors_88 : decode b_Md_meetMinors 88 = .ok (.iload 6, 2) := by decide +kernel
theorem d_Md_meetMinors_90 : decode b_Md_meetMinors 90 = .ok (.iadd, 1) := by decide +kernel
theorem d_Md_meetMinors_91 : decode b_Md_meetMinors 91 = .ok (.laload, 1) := by decide +kernel
theorem d_Md_meetMinors_92 : decode b_Md_meetMinors 92 = .ok (.goto 4, 3) := by decide +kernel
theorem d_Md_meetMinors_23 : decode b_Md_meetMinors 23 = .ok (.iload 6, 2) := by decide +kernel
theorem d_Md_meetMinors_25 : decode b_Md_meetMinors 25 = .ok (.iload_n 2, 1) := by decide +kernel
theorem d_Md_meetMinors_26 : decode b_Md_meetMinors 26 = .ok (.if_icmp .ge 21, 3) := by decide +kernel
theorem d_Md_meetMinors_47 : decode b_Md_meetMinors 47 = .ok (.iload 5, 2) := by decide +kernel
theorem d_Md_meetMinors_49 : decode b_Md_meetMinors 49 = .ok (.iload_n 3, 1) := by decide +kernel
theorem d_Md_meetMinors_50 : decode b_Md_meetMinors 50 = .ok (.if_icmp .eq 6, 3) := by decide +kernel
theorem d_Md_meetMinors_56 : decode b_Md_meetMinors 56 = .ok (.iconst 0, 1) := by decide +kernel
theorem d_Md_meetMinors_57 : decode b_Md_meetMinors 57 = .ok (.istore 6, 2) := by decide +kernel
theorem d_Md_meetMinors_53 : decode b_Md_meetMinors 53 = .ok (.goto 54, 3) := by decide +kernel
theorem d_Md_meetMinors_29 : decode b_Md_meetMinors 29 = .ok (.iload 5, 2) := by decide +kernel
theorem d_Md_meetMinors_31 : decode b_Md_meetMinors 31 = .ok (.iload 4, 2) := by decide +kernel
theorem d_Md_meetMinors_33 : decode b_Md_meetMinors 33 = .ok (.iload 6, 2) := by decide +kernel
theorem d_Md_meetMinors_35 : decode b_Md_meetMinors 35 = .ok (.ishr, 1) := by decide +kernel
theorem d_Md_meetMinors_36 : decode b_Md_meetMinors 36 = .ok (.iconst 1, 1) := by decide +kernel
theorem d_Md_meetMinors_37 : decode b_Md_meetMinors 37 = .ok (.iand, 1) := by decide +kernel
theorem d_Md_meetMinors_38 : decode b_Md_meetMinors 38 = .ok (.iadd, 1) := by decide +kernel
theorem d_Md_meetMinors_39 : decode b_Md_meetMinors 39 = .ok (.istore 5, 2) := by decide +kernel
theorem d_Md_meetMinors_41 : decode b_Md_meetMinors 41 = .ok (.iinc 6 1, 3) := by decide +kernel
theorem d_Md_meetMinors_44 : decode b_Md_meetMinors 44 = .ok (.goto (-21), 3) := by decide +kernel
theorem d_Md_meetMinors_9 : decode b_Md_meetMinors 9 = .ok (.iload 4, 2) := by decide +kernel
theorem d_Md_meetMinors_11 : decode b_Md_meetMinors 11 = .ok (.iconst 1, 1) := by decide +kernel
theorem d_Md_meetMinors_12 : decode b_Md_meetMinors 12 = .ok (.iload_n 2, 1) := by decide +kernel
theorem d_Md_meetMinors_13 : decode b_Md_meetMinors 13 = .ok (.ishl, 1) := by decide +kernel
theorem d_Md_meetMinors_14 : decode b_Md_meetMinors 14 = .ok (.if_icmp .ge 99, 3) := by decide +kernel
theorem d_Md_meetMinors_113 : decode b_Md_meetMinors 113 = .ok (.return_, 1) := by decide +kernel
theorem d_Md_meetMinors_17 : decode b_Md_meetMinors 17 = .ok (.iconst 0, 1) := by decide +kernel
theorem d_Md_meetMinors_18 : decode b_Md_meetMinors 18 = .ok (.istore 5, 2) := by decide +kernel
theorem d_Md_meetMinors_20 : decode b_Md_meetMinors 20 = .ok (.iconst 0, 1) := by decide +kernel
theorem d_Md_meetMinors_21 : decode b_Md_meetMinors 21 = .ok (.istore 6, 2) := by decide +kernel
theorem d_Md_meetMinors_0 : decode b_Md_meetMinors 0 = .ok (.aload_n 0, 1) := by decide +kernel
theorem d_Md_meetMinors_1 : decode b_Md_meetMinors 1 = .ok (.iload_n 1, 1) := by decide +kernel
theorem d_Md_meetMinors_2 : decode b_Md_meetMinors 2 = .ok (.iload_n 2, 1) := by decide +kernel
theorem d_Md_meetMinors_3 : decode b_Md_meetMinors 3 = .ok (.invokevirtual 490, 3) := by decide +kernel
theorem d_Md_meetMinors_6 : decode b_Md_meetMinors 6 = .ok (.iconst 0, 1) := by decide +kernel
theorem d_Md_meetMinors_7 : decode b_Md_meetMinors 7 = .ok (.istore 4, 2) := by decide +kernel
theorem d_Md_state_73 : decode b_Md_state 73 = .ok (.aload_n 0, 1) := by decide +kernel
theorem d_Md_state_74 : decode b_Md_state 74 = .ok (.getfield 23, 3) := by decide +kernel
theorem d_Md_state_77 : decode b_Md_state 77 = .ok (.aload_n 0, 1) := by decide +kernel
theorem d_Md_state_78 : decode b_Md_state 78 = .ok (.getfield 290, 3) := by decide +kernel
theorem d_Md_state_81 : decode b_Md_state 81 = .ok (.iaload, 1) := by decide +kernel
theorem d_Md_state_82 : decode b_Md_state 82 = .ok (.goto 4, 3) := by decide +kernel
theorem d_Br_isOneBraidWith_55 : decode b_Br_isOneBraidWith 55 = .ok (.iload_n 3, 1) := by decide +kernel
theorem d_Br_isOneBraidWith_56 : decode b_Br_isOneBraidWith 56 = .ok (.aload_n 0, 1) := by decide +kernel
theorem d_Br_isOneBraidWith_57 : decode b_Br_isOneBraidWith 57 = .ok (.getfield 21, 3) := by decide +kernel
theorem d_Br_isOneBraidWith_60 : decode b_Br_isOneBraidWith 60 = .ok (.if_icmp .ge 36, 3) := by decide +kernel
theorem d_Br_isOneBraidWith_96 : decode b_Br_isOneBraidWith 96 = .ok (.iinc 2 1, 3) := by decide +kernel
theorem d_Br_isOneBraidWith_99 : decode b_Br_isOneBraidWith 99 = .ok (.goto (-54), 3) := by decide +kernel
theorem d_Br_isOneBraidWith_63 : decode b_Br_isOneBraidWith 63 = .ok (.aload_n 0, 1) := by decide +kernel
theorem d_Br_isOneBraidWith_64 : decode b_Br_isOneBraidWith 64 = .ok (.getfield 15, 3) := by decide +kernel
theorem d_Br_isOneBraidWith_67 : decode b_Br_isOneBraidWith 67 = .ok (.iload_n 2, 1) := by decide +kernel
theorem d_Br_isOneBraidWith_68 : decode b_Br_isOneBraidWith 68 = .ok (.bipush 8, 2) := by decide +kernel
theorem d_Br_isOneBraidWith_70 : decode b_Br_isOneBraidWith 70 = .ok (.imul, 1) := by decide +kernel
theorem d_Br_isOneBraidWith_71 : decode b_Br_isOneBraidWith 71 = .ok (.iload_n 3, 1) := by decide +kernel
theorem d_Br_isOneBraidWith_72 : decode b_Br_isOneBraidWith 72 = .ok (.iadd, 1) := by decide +kernel
theorem d_Br_isOneBraidWith_73 : decode b_Br_isOneBraidWith 73 = .ok (.iaload, 1) := by decide +kernel
theorem d_Br_isOneBraidWith_74 : decode b_Br_isOneBraidWith 74 = .ok (.aload_n 1, 1) := by decide +kernel
theorem d_Br_isOneBraidWith_75 : decode b_Br_isOneBraidWith 75 = .ok (.getfield 15, 3) := by decide +kernel
theorem d_Br_isOneBraidWith_78 : decode b_Br_isOneBraidWith 78 = .ok (.iload_n 2, 1) := by decide +kernel
theorem d_Br_isOneBraidWith_79 : decode b_Br_isOneBraidWith 79 = .ok (.bipush 8, 2) := by decide +kernel
theorem d_Br_isOneBraidWith_81 : decode b_Br_isOneBraidWith 81 = .ok (.imul, 1) := by decide +kernel
theorem d_Br_isOneBraidWith_82 : decode b_Br_isOneBraidWith 82 = .ok (.iload_n 3, 1) := by decide +kernel
theorem d_Br_isOneBraidWith_83 : decode b_Br_isOneBraidWith 83 = .ok (.iadd, 1) := by decide +kernel
theorem d_Br_isOneBraidWith_84 : decode b_Br_isOneBraidWith 84 = .ok (.iaload, 1) := by decide +kernel
theorem d_Br_isOneBraidWith_85 : decode b_Br_isOneBraidWith 85 = .ok (.if_icmp .eq 5, 3) := by decide +kernel
theorem d_Br_isOneBraidWith_90 : decode b_Br_isOneBraidWith 90 = .ok (.iinc 3 1, 3) := by decide +kernel
theorem d_Br_isOneBraidWith_93 : decode b_Br_isOneBraidWith 93 = .ok (.goto (-38), 3) := by decide +kernel
theorem d_Br_isOneBraidWith_88 : decode b_Br_isOneBraidWith 88 = .ok (.iconst 0, 1) := by decide +kernel
theorem d_Br_isOneBraidWith_89 : decode b_Br_isOneBraidWith 89 = .ok (.ireturn, 1) := by decide +kernel
theorem d_Br_isOneBraidWith_53 : decode b_Br_isOneBraidWith 53 = .ok (.iconst 0, 1) := by decide +kernel
theorem d_Br_isOneBraidWith_54 : decode b_Br_isOneBraidWith 54 = .ok (.istore_n 3, 1) := by decide +kernel
theorem d_Br_isOneBraidWith_41 : decode b_Br_isOneBraidWith 41 = .ok (.iconst 0, 1) := by decide +kernel
theorem d_Br_isOneBraidWith_42 : decode b_Br_isOneBraidWith 42 = .ok (.ireturn, 1) := by decide +kernel
theorem d_Md_alexander_138 : decode b_Md_alexander 138 = .ok (.iload 4, 2) := by decide +kernel
theorem d_Md_alexander_140 : decode b_Md_alexander 140 = .ok (.bipush 16, 2) := by decide +kernel
theorem d_Md_alexander_142 : decode b_Md_alexander 142 = .ok (.if_icmp .ge 28, 3) := by decide +kernel
theorem d_Md_alexander_170 : decode b_Md_alexander 170 = .ok (.return_, 1) := by decide +kernel
theorem d_Md_alexander_145 : decode b_Md_alexander 145 = .ok (.aload_n 0, 1) := by decide +kernel
theorem d_Md_alexander_146 : decode b_Md_alexander 146 = .ok (.getfield 96, 3) := by decide +kernel
theorem d_Md_alexander_149 : decode b_Md_alexander 149 = .ok (.bipush 100, 2) := by decide +kernel
theorem d_Md_alexander_151 : decode b_Md_alexander 151 = .ok (.iload 4, 2) := by decide +kernel
theorem d_Md_alexander_153 : decode b_Md_alexander 153 = .ok (.iadd, 1) := by decide +kernel
theorem d_Md_alexander_154 : decode b_Md_alexander 154 = .ok (.lload_n 2, 1) := by decide +kernel
theorem d_Md_alexander_155 : decode b_Md_alexander 155 = .ok (.aload_n 0, 1) := by decide +kernel
theorem d_Md_alexander_156 : decode b_Md_alexander 156 = .ok (.getfield 120, 3) := by decide +kernel
theorem d_Md_alexander_159 : decode b_Md_alexander 159 = .ok (.iload 4, 2) := by decide +kernel
theorem d_Md_alexander_161 : decode b_Md_alexander 161 = .ok (.laload, 1) := by decide +kernel
theorem d_Md_alexander_162 : decode b_Md_alexander 162 = .ok (.lmul, 1) := by decide +kernel
theorem d_Md_alexander_163 : decode b_Md_alexander 163 = .ok (.lastore, 1) := by decide +kernel
theorem d_Md_alexander_164 : decode b_Md_alexander 164 = .ok (.iinc 4 1, 3) := by decide +kernel
theorem d_Md_alexander_167 : decode b_Md_alexander 167 = .ok (.goto (-29), 3) := by decide +kernel
theorem d_Md_alexander_134 : decode b_Md_alexander 134 = .ok (.lstore_n 2, 1) := by decide +kernel
theorem d_Md_alexander_135 : decode b_Md_alexander 135 = .ok (.iconst 0, 1) := by decide +kernel
theorem d_Md_alexander_136 : decode b_Md_alexander 136 = .ok (.istore 4, 2) := by decide +kernel
theorem d_Md_alexander_109 : decode b_Md_alexander 109 = .ok (.aload_n 0, 1) := by decide +kernel
theorem d_Md_alexander_110 : decode b_Md_alexander 110 = .ok (.getfield 120, 3) := by decide +kernel
theorem d_Md_alexander_113 : decode b_Md_alexander 113 = .ok (.invokestatic 474, 3) := by decide +kernel
theorem d_Md_alexander_116 : decode b_Md_alexander 116 = .ok (.aload_n 0, 1) := by decide +kernel
theorem d_Md_alexander_117 : decode b_Md_alexander 117 = .ok (.getfield 120, 3) := by decide +kernel
theorem d_Md_alexander_120 : decode b_Md_alexander 120 = .ok (.iconst 0, 1) := by decide +kernel
theorem d_Md_alexander_121 : decode b_Md_alexander 121 = .ok (.laload, 1) := by decide +kernel
theorem d_Md_alexander_122 : decode b_Md_alexander 122 = .ok (.lconst 0, 1) := by decide +kernel
theorem d_Md_alexander_123 : decode b_Md_alexander 123 = .ok (.lcmp, 1) := by decide +kernel
theorem d_Md_alexander_124 : decode b_Md_alexander 124 = .ok (.ifCond .ge 9, 3) := by decide +kernel
theorem d_Md_alexander_133 : decode b_Md_alexander 133 = .ok (.lconst 1, 1) := by decide +kernel
theorem d_Md_alexander_127 : decode b_Md_alexander 127 = .ok (.ldc2_w 196, 3) := by decide +kernel
theorem d_Md_alexander_130 : decode b_Md_alexander 130 = .ok (.goto 4, 3) := by decide +kernel
theorem d_Md_alexander_82 : decode b_Md_alexander 82 = .ok (.iload_n 2, 1) := by decide +kernel
theorem d_Md_alexander_83 : decode b_Md_alexander 83 = .ok (.aload_n 0, 1) := by decide +kernel
theorem d_Md_alexander_84 : decode b_Md_alexander 84 = .ok (.getfield 37, 3) := by decide +kernel
theorem d_Md_alexander_87 : decode b_Md_alexander 87 = .ok (.getfield 312, 3) := by decide +kernel
theorem d_Md_alexander_90 : decode b_Md_alexander 90 = .ok (.if_icmp .ge 19, 3) := by decide +kernel
theorem d_Md_alexander_93 : decode b_Md_alexander 93 = .ok (.aload_n 0, 1) := by decide +kernel
theorem d_Md_alexander_94 : decode b_Md_alexander 94 = .ok (.iload_n 2, 1) := by decide +kernel
theorem d_Md_alexander_95 : decode b_Md_alexander 95 = .ok (.aload_n 0, 1) := by decide +kernel
theorem d_Md_alexander_96 : decode b_Md_alexander 96 = .ok (.getfield 459, 3) := by decide +kernel
theorem d_Md_alexander_99 : decode b_Md_alexander 99 = .ok (.iload_n 1, 1) := by decide +kernel
theorem d_Md_alexander_100 : decode b_Md_alexander 100 = .ok (.invokevirtual 502, 3) := by decide +kernel
theorem d_Md_alexander_103 : decode b_Md_alexander 103 = .ok (.iinc 2 1, 3) := by decide +kernel
theorem d_Md_alexander_106 : decode b_Md_alexander 106 = .ok (.goto (-24), 3) := by decide +kernel
theorem d_Md_alexander_37 : decode b_Md_alexander 37 = .ok (.iload_n 2, 1) := by decide +kernel
theorem d_Md_alexander_38 : decode b_Md_alexander 38 = .ok (.bipush 16, 2) := by decide +kernel
theorem d_Md_alexander_40 : decode b_Md_alexander 40 = .ok (.if_icmp .ge 16, 3) := by decide +kernel
theorem d_Md_alexander_56 : decode b_Md_alexander 56 = .ok (.iload_n 1, 1) := by decide +kernel
theorem d_Md_alexander_57 : decode b_Md_alexander 57 = .ok (.aload_n 0, 1) := by decide +kernel
theorem d_Md_alexander_58 : decode b_Md_alexander 58 = .ok (.getfield 37, 3) := by decide +kernel
theorem d_Md_alexander_61 : decode b_Md_alexander 61 = .ok (.getfield 312, 3) := by decide +kernel
theorem d_Md_alexander_64 : decode b_Md_alexander 64 = .ok (.if_icmp .ne 16, 3) := by decide +kernel
theorem d_Md_alexander_80 : decode b_Md_alexander 80 = .ok (.iconst 0, 1) := by decide +kernel
theorem d_Md_alexander_81 : decode b_Md_alexander 81 = .ok (.istore_n 2, 1) := by decide +kernel
theorem d_Md_alexander_67 : decode b_Md_alexander 67 = .ok (.aload_n 0, 1) := by decide +kernel
theorem d_Md_alexander_68 : decode b_Md_alexander 68 = .ok (.iconst (-1), 1) := by decide +kernel
theorem d_Md_alexander_69 : decode b_Md_alexander 69 = .ok (.aload_n 0, 1) := by decide +kernel
theorem d_Md_alexander_70 : decode b_Md_alexander 70 = .ok (.getfield 459, 3) := by decide +kernel
theorem d_Md_alexander_73 : decode b_Md_alexander 73 = .ok (.iload_n 1, 1) := by decide +kernel
theorem d_Md_alexander_74 : decode b_Md_alexander 74 = .ok (.invokevirtual 502, 3) := by decide +kernel
theorem d_Md_alexander_77 : decode b_Md_alexander 77 = .ok (.goto 32, 3) := by decide +kernel
theorem d_Md_alexander_43 : decode b_Md_alexander 43 = .ok (.aload_n 0, 1) := by decide +kernel
theorem d_Md_alexander_44 : decode b_Md_alexander 44 = .ok (.getfield 120, 3) := by decide +kernel
theorem d_Md_alexander_47 : decode b_Md_alexander 47 = .ok (.iload_n 2, 1) := by decide +kernel
theorem d_Md_alexander_48 : decode b_Md_alexander 48 = .ok (.lconst 0, 1) := by decide +kernel
theorem d_Md_alexander_49 : decode b_Md_alexander 49 = .ok (.lastore, 1) := by decide +kernel
theorem d_Md_alexander_50 : decode b_Md_alexander 50 = .ok (.iinc 2 1, 3) := by decide +kernel
theorem d_Md_alexander_53 : decode b_Md_alexander 53 = .ok (.goto (-16), 3) := by decide +kernel
theorem d_Md_alexander_0 : decode b_Md_alexander 0 = .ok (.aload_n 0, 1) := by decide +kernel
theorem d_Md_alexander_1 : decode b_Md_alexander 1 = .ok (.invokevirtual 444, 3) := by decide +kernel
theorem d_Md_alexander_4 : decode b_Md_alexander 4 = .ok (.aload_n 0, 1) := by decide +kernel
theorem d_Md_alexander_5 : decode b_Md_alexander 5 = .ok (.invokevirtual 496, 3) := by decide +kernel
theorem d_Md_alexander_8 : decode b_Md_alexander 8 = .ok (.aload_n 0, 1) := by decide +kernel
theorem d_Md_alexander_9 : decode b_Md_alexander 9 = .ok (.getfield 459, 3) := by decide +kernel
