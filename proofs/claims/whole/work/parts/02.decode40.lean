theorem d_Md_doNext_72 : decode b_Md_doNext 72 = .ok (.iconst 0, 1) := by decide +kernel
theorem d_Md_doNext_73 : decode b_Md_doNext 73 = .ok (.putfield 506, 3) := by decide +kernel
theorem d_Md_doNext_76 : decode b_Md_doNext 76 = .ok (.aload_n 0, 1) := by decide +kernel
theorem d_Md_doNext_77 : decode b_Md_doNext 77 = .ok (.iload_n 1, 1) := by decide +kernel
theorem d_Md_doNext_78 : decode b_Md_doNext 78 = .ok (.invokevirtual 671, 3) := by decide +kernel
theorem d_Md_doNext_81 : decode b_Md_doNext 81 = .ok (.aload_n 0, 1) := by decide +kernel
theorem d_Md_doNext_82 : decode b_Md_doNext 82 = .ok (.getfield 674, 3) := by decide +kernel
theorem d_Md_doNext_85 : decode b_Md_doNext 85 = .ok (.aload_n 0, 1) := by decide +kernel
theorem d_Md_doNext_86 : decode b_Md_doNext 86 = .ok (.getfield 506, 3) := by decide +kernel
theorem d_Md_doNext_89 : decode b_Md_doNext 89 = .ok (.iadd, 1) := by decide +kernel
theorem d_Md_doNext_90 : decode b_Md_doNext 90 = .ok (.sipush 4000, 3) := by decide +kernel
theorem d_Md_doNext_93 : decode b_Md_doNext 93 = .ok (.if_icmp .le 38, 3) := by decide +kernel
theorem d_Md_doNext_96 : decode b_Md_doNext 96 = .ok (.aload_n 0, 1) := by decide +kernel
theorem d_Md_doNext_97 : decode b_Md_doNext 97 = .ok (.getfield 37, 3) := by decide +kernel
theorem d_Md_doNext_100 : decode b_Md_doNext 100 = .ok (.aload_n 0, 1) := by decide +kernel
theorem d_Md_doNext_101 : decode b_Md_doNext 101 = .ok (.getfield 44, 3) := by decide +kernel
theorem d_Md_doNext_104 : decode b_Md_doNext 104 = .ok (.invokevirtual 366, 3) := by decide +kernel
theorem d_Md_doNext_107 : decode b_Md_doNext 107 = .ok (.aload_n 0, 1) := by decide +kernel
theorem d_Md_doNext_108 : decode b_Md_doNext 108 = .ok (.getfield 50, 3) := by decide +kernel
theorem d_Md_doNext_111 : decode b_Md_doNext 111 = .ok (.aload_n 0, 1) := by decide +kernel
theorem d_Md_doNext_112 : decode b_Md_doNext 112 = .ok (.getfield 57, 3) := by decide +kernel
theorem d_Md_doNext_115 : decode b_Md_doNext 115 = .ok (.invokevirtual 570, 3) := by decide +kernel
theorem d_Md_doNext_118 : decode b_Md_doNext 118 = .ok (.aload_n 0, 1) := by decide +kernel
theorem d_Md_doNext_119 : decode b_Md_doNext 119 = .ok (.getfield 54, 3) := by decide +kernel
theorem d_Md_doNext_122 : decode b_Md_doNext 122 = .ok (.aload_n 0, 1) := by decide +kernel
theorem d_Md_doNext_123 : decode b_Md_doNext 123 = .ok (.getfield 60, 3) := by decide +kernel
theorem d_Md_doNext_126 : decode b_Md_doNext 126 = .ok (.invokevirtual 570, 3) := by decide +kernel
theorem d_Md_doNext_129 : decode b_Md_doNext 129 = .ok (.iconst 0, 1) := by decide +kernel
theorem d_Md_doNext_130 : decode b_Md_doNext 130 = .ok (.ireturn, 1) := by decide +kernel
theorem d_Md_doNext_131 : decode b_Md_doNext 131 = .ok (.iconst 0, 1) := by decide +kernel
theorem d_Md_doNext_132 : decode b_Md_doNext 132 = .ok (.istore_n 2, 1) := by decide +kernel
theorem d_Md_doNext_133 : decode b_Md_doNext 133 = .ok (.iload_n 2, 1) := by decide +kernel
theorem d_Md_doNext_134 : decode b_Md_doNext 134 = .ok (.aload_n 0, 1) := by decide +kernel
theorem d_Md_doNext_135 : decode b_Md_doNext 135 = .ok (.getfield 506, 3) := by decide +kernel
theorem d_Md_doNext_138 : decode b_Md_doNext 138 = .ok (.if_icmp .ge 26, 3) := by decide +kernel
theorem d_Md_doNext_141 : decode b_Md_doNext 141 = .ok (.aload_n 0, 1) := by decide +kernel
theorem d_Md_doNext_142 : decode b_Md_doNext 142 = .ok (.getfield 13, 3) := by decide +kernel
theorem d_Md_doNext_145 : decode b_Md_doNext 145 = .ok (.aload_n 0, 1) := by decide +kernel
theorem d_Md_doNext_146 : decode b_Md_doNext 146 = .ok (.getfield 674, 3) := by decide +kernel
theorem d_Md_doNext_149 : decode b_Md_doNext 149 = .ok (.iload_n 2, 1) := by decide +kernel
theorem d_Md_doNext_150 : decode b_Md_doNext 150 = .ok (.iadd, 1) := by decide +kernel
theorem d_Md_doNext_151 : decode b_Md_doNext 151 = .ok (.aload_n 0, 1) := by decide +kernel
theorem d_Md_doNext_152 : decode b_Md_doNext 152 = .ok (.getfield 63, 3) := by decide +kernel
theorem d_Md_doNext_155 : decode b_Md_doNext 155 = .ok (.iload_n 2, 1) := by decide +kernel
theorem d_Md_doNext_156 : decode b_Md_doNext 156 = .ok (.baload, 1) := by decide +kernel
theorem d_Md_doNext_157 : decode b_Md_doNext 157 = .ok (.bastore, 1) := by decide +kernel
theorem d_Md_doNext_158 : decode b_Md_doNext 158 = .ok (.iinc 2 1, 3) := by decide +kernel
theorem d_Md_doNext_161 : decode b_Md_doNext 161 = .ok (.goto (-28), 3) := by decide +kernel
theorem d_Md_doNext_164 : decode b_Md_doNext 164 = .ok (.aload_n 0, 1) := by decide +kernel
theorem d_Md_doNext_165 : decode b_Md_doNext 165 = .ok (.dup, 1) := by decide +kernel
theorem d_Md_doNext_166 : decode b_Md_doNext 166 = .ok (.getfield 674, 3) := by decide +kernel
theorem d_Md_doNext_169 : decode b_Md_doNext 169 = .ok (.aload_n 0, 1) := by decide +kernel
theorem d_Md_doNext_170 : decode b_Md_doNext 170 = .ok (.getfield 506, 3) := by decide +kernel
theorem d_Md_doNext_173 : decode b_Md_doNext 173 = .ok (.iadd, 1) := by decide +kernel
theorem d_Md_doNext_174 : decode b_Md_doNext 174 = .ok (.putfield 674, 3) := by decide +kernel
theorem d_Md_doNext_177 : decode b_Md_doNext 177 = .ok (.aload_n 0, 1) := by decide +kernel
theorem d_Md_doNext_178 : decode b_Md_doNext 178 = .ok (.dup, 1) := by decide +kernel
theorem d_Md_doNext_179 : decode b_Md_doNext 179 = .ok (.getfield 290, 3) := by decide +kernel
theorem d_Md_doNext_182 : decode b_Md_doNext 182 = .ok (.iconst 1, 1) := by decide +kernel
theorem d_Md_doNext_183 : decode b_Md_doNext 183 = .ok (.iadd, 1) := by decide +kernel
theorem d_Md_doNext_184 : decode b_Md_doNext 184 = .ok (.putfield 290, 3) := by decide +kernel
theorem d_Md_doNext_187 : decode b_Md_doNext 187 = .ok (.aload_n 0, 1) := by decide +kernel
theorem d_Md_doNext_188 : decode b_Md_doNext 188 = .ok (.dup, 1) := by decide +kernel
theorem d_Md_doNext_189 : decode b_Md_doNext 189 = .ok (.getfield 665, 3) := by decide +kernel
theorem d_Md_doNext_192 : decode b_Md_doNext 192 = .ok (.iconst 1, 1) := by decide +kernel
theorem d_Md_doNext_193 : decode b_Md_doNext 193 = .ok (.iadd, 1) := by decide +kernel
theorem d_Md_doNext_194 : decode b_Md_doNext 194 = .ok (.putfield 665, 3) := by decide +kernel
theorem d_Md_doNext_197 : decode b_Md_doNext 197 = .ok (.aload_n 0, 1) := by decide +kernel
theorem d_Md_doNext_198 : decode b_Md_doNext 198 = .ok (.dup, 1) := by decide +kernel
theorem d_Md_doNext_199 : decode b_Md_doNext 199 = .ok (.getfield 668, 3) := by decide +kernel
theorem d_Md_doNext_202 : decode b_Md_doNext 202 = .ok (.iload_n 1, 1) := by decide +kernel
theorem d_Md_doNext_203 : decode b_Md_doNext 203 = .ok (.bipush 15, 2) := by decide +kernel
theorem d_Md_doNext_205 : decode b_Md_doNext 205 = .ok (.if_icmp .le 7, 3) := by decide +kernel
theorem d_Md_doNext_208 : decode b_Md_doNext 208 = .ok (.iconst 1, 1) := by decide +kernel
theorem d_Md_doNext_209 : decode b_Md_doNext 209 = .ok (.goto 4, 3) := by decide +kernel
theorem d_Md_doNext_212 : decode b_Md_doNext 212 = .ok (.iconst 0, 1) := by decide +kernel
theorem d_Md_doNext_213 : decode b_Md_doNext 213 = .ok (.iadd, 1) := by decide +kernel
theorem d_Md_doNext_214 : decode b_Md_doNext 214 = .ok (.putfield 668, 3) := by decide +kernel
theorem d_Md_doNext_217 : decode b_Md_doNext 217 = .ok (.iconst 1, 1) := by decide +kernel
theorem d_Md_doNext_218 : decode b_Md_doNext 218 = .ok (.ireturn, 1) := by decide +kernel
theorem d_Md_drop_0 : decode b_Md_drop 0 = .ok (.aload_n 0, 1) := by decide +kernel
theorem d_Md_drop_1 : decode b_Md_drop 1 = .ok (.getfield 37, 3) := by decide +kernel
theorem d_Md_drop_4 : decode b_Md_drop 4 = .ok (.dup, 1) := by decide +kernel
theorem d_Md_drop_5 : decode b_Md_drop 5 = .ok (.getfield 312, 3) := by decide +kernel
theorem d_Md_drop_8 : decode b_Md_drop 8 = .ok (.iconst 1, 1) := by decide +kernel
theorem d_Md_drop_9 : decode b_Md_drop 9 = .ok (.isub, 1) := by decide +kernel
theorem d_Md_drop_10 : decode b_Md_drop 10 = .ok (.putfield 312, 3) := by decide +kernel
theorem d_Md_drop_13 : decode b_Md_drop 13 = .ok (.iload_n 1, 1) := by decide +kernel
theorem d_Md_drop_14 : decode b_Md_drop 14 = .ok (.istore_n 2, 1) := by decide +kernel
theorem d_Md_drop_15 : decode b_Md_drop 15 = .ok (.iload_n 2, 1) := by decide +kernel
theorem d_Md_drop_16 : decode b_Md_drop 16 = .ok (.aload_n 0, 1) := by decide +kernel
theorem d_Md_drop_17 : decode b_Md_drop 17 = .ok (.getfield 37, 3) := by decide +kernel
theorem d_Md_drop_20 : decode b_Md_drop 20 = .ok (.getfield 312, 3) := by decide +kernel
theorem d_Md_drop_23 : decode b_Md_drop 23 = .ok (.if_icmp .ge 70, 3) := by decide +kernel
theorem d_Md_drop_26 : decode b_Md_drop 26 = .ok (.aload_n 0, 1) := by decide +kernel
theorem d_Md_drop_27 : decode b_Md_drop 27 = .ok (.getfield 37, 3) := by decide +kernel
theorem d_Md_drop_30 : decode b_Md_drop 30 = .ok (.getfield 306, 3) := by decide +kernel
theorem d_Md_drop_33 : decode b_Md_drop 33 = .ok (.iload_n 2, 1) := by decide +kernel
theorem d_Md_drop_34 : decode b_Md_drop 34 = .ok (.aload_n 0, 1) := by decide +kernel
theorem d_Md_drop_35 : decode b_Md_drop 35 = .ok (.getfield 37, 3) := by decide +kernel
theorem d_Md_drop_38 : decode b_Md_drop 38 = .ok (.getfield 306, 3) := by decide +kernel
theorem d_Md_drop_41 : decode b_Md_drop 41 = .ok (.iload_n 2, 1) := by decide +kernel
theorem d_Md_drop_42 : decode b_Md_drop 42 = .ok (.iconst 1, 1) := by decide +kernel
theorem d_Md_drop_43 : decode b_Md_drop 43 = .ok (.iadd, 1) := by decide +kernel
theorem d_Md_drop_44 : decode b_Md_drop 44 = .ok (.iaload, 1) := by decide +kernel
theorem d_Md_drop_45 : decode b_Md_drop 45 = .ok (.iastore, 1) := by decide +kernel
theorem d_Md_drop_46 : decode b_Md_drop 46 = .ok (.iconst 0, 1) := by decide +kernel
theorem d_Md_drop_47 : decode b_Md_drop 47 = .ok (.istore_n 3, 1) := by decide +kernel
theorem d_Md_drop_48 : decode b_Md_drop 48 = .ok (.iload_n 3, 1) := by decide +kernel
theorem d_Md_drop_49 : decode b_Md_drop 49 = .ok (.iconst 4, 1) := by decide +kernel
theorem d_Md_drop_50 : decode b_Md_drop 50 = .ok (.if_icmp .ge 37, 3) := by decide +kernel
theorem d_Md_drop_53 : decode b_Md_drop 53 = .ok (.aload_n 0, 1) := by decide +kernel
theorem d_Md_drop_54 : decode b_Md_drop 54 = .ok (.getfield 37, 3) := by decide +kernel
theorem d_Md_drop_57 : decode b_Md_drop 57 = .ok (.getfield 318, 3) := by decide +kernel
theorem d_Md_drop_60 : decode b_Md_drop 60 = .ok (.iconst 4, 1) := by decide +kernel
theorem d_Md_drop_61 : decode b_Md_drop 61 = .ok (.iload_n 2, 1) := by decide +kernel
theorem d_Md_drop_62 : decode b_Md_drop 62 = .ok (.imul, 1) := by decide +kernel
theorem d_Md_drop_63 : decode b_Md_drop 63 = .ok (.iload_n 3, 1) := by decide +kernel
theorem d_Md_drop_64 : decode b_Md_drop 64 = .ok (.iadd, 1) := by decide +kernel
theorem d_Md_drop_65 : decode b_Md_drop 65 = .ok (.aload_n 0, 1) := by decide +kernel
theorem d_Md_drop_66 : decode b_Md_drop 66 = .ok (.getfield 37, 3) := by decide +kernel
theorem d_Md_drop_69 : decode b_Md_drop 69 = .ok (.getfield 318, 3) := by decide +kernel
theorem d_Md_drop_72 : decode b_Md_drop 72 = .ok (.iconst 4, 1) := by decide +kernel
theorem d_Md_drop_73 : decode b_Md_drop 73 = .ok (.iload_n 2, 1) := by decide +kernel
theorem d_Md_drop_74 : decode b_Md_drop 74 = .ok (.imul, 1) := by decide +kernel
theorem d_Md_drop_75 : decode b_Md_drop 75 = .ok (.iconst 4, 1) := by decide +kernel
theorem d_Md_drop_76 : decode b_Md_drop 76 = .ok (.iadd, 1) := by decide +kernel
theorem d_Md_drop_77 : decode b_Md_drop 77 = .ok (.iload_n 3, 1) := by decide +kernel
theorem d_Md_drop_78 : decode b_Md_drop 78 = .ok (.iadd, 1) := by decide +kernel
theorem d_Md_drop_79 : decode b_Md_drop 79 = .ok (.iaload, 1) := by decide +kernel
theorem d_Md_drop_80 : decode b_Md_drop 80 = .ok (.iastore, 1) := by decide +kernel
theorem d_Md_drop_81 : decode b_Md_drop 81 = .ok (.iinc 3 1, 3) := by decide +kernel
theorem d_Md_drop_84 : decode b_Md_drop 84 = .ok (.goto (-36), 3) := by decide +kernel
theorem d_Md_drop_87 : decode b_Md_drop 87 = .ok (.iinc 2 1, 3) := by decide +kernel
theorem d_Md_drop_90 : decode b_Md_drop 90 = .ok (.goto (-75), 3) := by decide +kernel
theorem d_Md_drop_93 : decode b_Md_drop 93 = .ok (.return_, 1) := by decide +kernel
theorem d_Md_fail_0 : decode b_Md_fail 0 = .ok (.aload_n 0, 1) := by decide +kernel
theorem d_Md_fail_1 : decode b_Md_fail 1 = .ok (.getfield 126, 3) := by decide +kernel
theorem d_Md_fail_4 : decode b_Md_fail 4 = .ok (.ifCond .eq 4, 3) := by decide +kernel
theorem d_Md_fail_7 : decode b_Md_fail 7 = .ok (.return_, 1) := by decide +kernel
theorem d_Md_fail_8 : decode b_Md_fail 8 = .ok (.aload_n 0, 1) := by decide +kernel
theorem d_Md_fail_9 : decode b_Md_fail 9 = .ok (.iload_n 1, 1) := by decide +kernel
theorem d_Md_fail_10 : decode b_Md_fail 10 = .ok (.putfield 126, 3) := by decide +kernel
theorem d_Md_fail_13 : decode b_Md_fail 13 = .ok (.aload_n 0, 1) := by decide +kernel
theorem d_Md_fail_14 : decode b_Md_fail 14 = .ok (.iload_n 2, 1) := by decide +kernel
theorem d_Md_fail_15 : decode b_Md_fail 15 = .ok (.putfield 19, 3) := by decide +kernel
theorem d_Md_fail_18 : decode b_Md_fail 18 = .ok (.return_, 1) := by decide +kernel
theorem d_Md_fault_0 : decode b_Md_fault 0 = .ok (.aload_n 0, 1) := by decide +kernel
theorem d_Md_fault_1 : decode b_Md_fault 1 = .ok (.getfield 299, 3) := by decide +kernel
theorem d_Md_fault_4 : decode b_Md_fault 4 = .ok (.ifCond .ne 7, 3) := by decide +kernel
theorem d_Md_fault_7 : decode b_Md_fault 7 = .ok (.iconst (-1), 1) := by decide +kernel
theorem d_Md_fault_8 : decode b_Md_fault 8 = .ok (.goto 27, 3) := by decide +kernel
theorem d_Md_fault_11 : decode b_Md_fault 11 = .ok (.iload_n 1, 1) := by decide +kernel
theorem d_Md_fault_12 : decode b_Md_fault 12 = .ok (.ifCond .ne 10, 3) := by decide +kernel
theorem d_Md_fault_15 : decode b_Md_fault 15 = .ok (.aload_n 0, 1) := by decide +kernel
theorem d_Md_fault_16 : decode b_Md_fault 16 = .ok (.getfield 126, 3) := by decide +kernel
theorem d_Md_fault_19 : decode b_Md_fault 19 = .ok (.goto 16, 3) := by decide +kernel
theorem d_Md_fault_22 : decode b_Md_fault 22 = .ok (.iload_n 1, 1) := by decide +kernel
theorem d_Md_fault_23 : decode b_Md_fault 23 = .ok (.iconst 1, 1) := by decide +kernel
theorem d_Md_fault_24 : decode b_Md_fault 24 = .ok (.if_icmp .ne 10, 3) := by decide +kernel
theorem d_Md_fault_27 : decode b_Md_fault 27 = .ok (.aload_n 0, 1) := by decide +kernel
theorem d_Md_fault_28 : decode b_Md_fault 28 = .ok (.getfield 19, 3) := by decide +kernel
theorem d_Md_fault_31 : decode b_Md_fault 31 = .ok (.goto 4, 3) := by decide +kernel
theorem d_Md_fault_34 : decode b_Md_fault 34 = .ok (.iconst (-1), 1) := by decide +kernel
theorem d_Md_fault_35 : decode b_Md_fault 35 = .ok (.ireturn, 1) := by decide +kernel
theorem d_Md_feed_0 : decode b_Md_feed 0 = .ok (.aload_n 0, 1) := by decide +kernel
theorem d_Md_feed_1 : decode b_Md_feed 1 = .ok (.getfield 296, 3) := by decide +kernel
theorem d_Md_feed_4 : decode b_Md_feed 4 = .ok (.bipush 20, 2) := by decide +kernel
theorem d_Md_feed_6 : decode b_Md_feed 6 = .ok (.iadd, 1) := by decide +kernel
theorem d_Md_feed_7 : decode b_Md_feed 7 = .ok (.sipush 4000, 3) := by decide +kernel
theorem d_Md_feed_10 : decode b_Md_feed 10 = .ok (.if_icmp .le 5, 3) := by decide +kernel
theorem d_Md_feed_13 : decode b_Md_feed 13 = .ok (.iconst (-1), 1) := by decide +kernel
theorem d_Md_feed_14 : decode b_Md_feed 14 = .ok (.ireturn, 1) := by decide +kernel
theorem d_Md_feed_15 : decode b_Md_feed 15 = .ok (.aload_n 0, 1) := by decide +kernel
theorem d_Md_feed_16 : decode b_Md_feed 16 = .ok (.iload_n 1, 1) := by decide +kernel
theorem d_Md_feed_17 : decode b_Md_feed 17 = .ok (.invokevirtual 680, 3) := by decide +kernel
theorem d_Md_feed_20 : decode b_Md_feed 20 = .ok (.aload_n 0, 1) := by decide +kernel
theorem d_Md_feed_21 : decode b_Md_feed 21 = .ok (.iload_n 2, 1) := by decide +kernel
theorem d_Md_feed_22 : decode b_Md_feed 22 = .ok (.invokevirtual 680, 3) := by decide +kernel
theorem d_Md_feed_25 : decode b_Md_feed 25 = .ok (.aload_n 0, 1) := by decide +kernel
theorem d_Md_feed_26 : decode b_Md_feed 26 = .ok (.iload_n 3, 1) := by decide +kernel
theorem d_Md_feed_27 : decode b_Md_feed 27 = .ok (.invokevirtual 680, 3) := by decide +kernel
theorem d_Md_feed_30 : decode b_Md_feed 30 = .ok (.aload_n 0, 1) := by decide +kernel
theorem d_Md_feed_31 : decode b_Md_feed 31 = .ok (.iload 4, 2) := by decide +kernel
theorem d_Md_feed_33 : decode b_Md_feed 33 = .ok (.invokevirtual 680, 3) := by decide +kernel
theorem d_Md_feed_36 : decode b_Md_feed 36 = .ok (.aload_n 0, 1) := by decide +kernel
theorem d_Md_feed_37 : decode b_Md_feed 37 = .ok (.iload 5, 2) := by decide +kernel
theorem d_Md_feed_39 : decode b_Md_feed 39 = .ok (.invokevirtual 680, 3) := by decide +kernel
theorem d_Md_feed_42 : decode b_Md_feed 42 = .ok (.aload_n 0, 1) := by decide +kernel
theorem d_Md_feed_43 : decode b_Md_feed 43 = .ok (.getfield 296, 3) := by decide +kernel
theorem d_Md_feed_46 : decode b_Md_feed 46 = .ok (.ireturn, 1) := by decide +kernel
theorem d_Md_feedOne_0 : decode b_Md_feedOne 0 = .ok (.bipush 24, 2) := by decide +kernel
theorem d_Md_feedOne_2 : decode b_Md_feedOne 2 = .ok (.istore_n 2, 1) := by decide +kernel
theorem d_Md_feedOne_3 : decode b_Md_feedOne 3 = .ok (.iload_n 2, 1) := by decide +kernel
theorem d_Md_feedOne_4 : decode b_Md_feedOne 4 = .ok (.ifCond .lt 32, 3) := by decide +kernel
theorem d_Md_feedOne_7 : decode b_Md_feedOne 7 = .ok (.aload_n 0, 1) := by decide +kernel
theorem d_Md_feedOne_8 : decode b_Md_feedOne 8 = .ok (.getfield 9, 3) := by decide +kernel
theorem d_Md_feedOne_11 : decode b_Md_feedOne 11 = .ok (.aload_n 0, 1) := by decide +kernel
theorem d_Md_feedOne_12 : decode b_Md_feedOne 12 = .ok (.getfield 296, 3) := by decide +kernel
theorem d_Md_feedOne_15 : decode b_Md_feedOne 15 = .ok (.iload_n 1, 1) := by decide +kernel
