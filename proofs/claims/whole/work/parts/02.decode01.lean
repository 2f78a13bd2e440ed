theorem d_En_leaveLine_23 : decode b_En_leaveLine 23 = .ok (.aload_n 0, 1) := by decide +kernel
theorem d_En_leaveLine_24 : decode b_En_leaveLine 24 = .ok (.dup, 1) := by decide +kernel
theorem d_En_leaveLine_25 : decode b_En_leaveLine 25 = .ok (.getfield 204, 3) := by decide +kernel
theorem d_En_leaveLine_28 : decode b_En_leaveLine 28 = .ok (.iconst 1, 1) := by decide +kernel
theorem d_En_leaveLine_29 : decode b_En_leaveLine 29 = .ok (.iadd, 1) := by decide +kernel
theorem d_En_leaveLine_30 : decode b_En_leaveLine 30 = .ok (.putfield 204, 3) := by decide +kernel
theorem d_En_leaveLine_33 : decode b_En_leaveLine 33 = .ok (.return_, 1) := by decide +kernel
theorem d_En_length_0 : decode b_En_length 0 = .ok (.iload_n 1, 1) := by decide +kernel
theorem d_En_length_1 : decode b_En_length 1 = .ok (.ifCond .eq 10, 3) := by decide +kernel
theorem d_En_length_4 : decode b_En_length 4 = .ok (.aload_n 0, 1) := by decide +kernel
theorem d_En_length_5 : decode b_En_length 5 = .ok (.getfield 83, 3) := by decide +kernel
theorem d_En_length_8 : decode b_En_length 8 = .ok (.goto 7, 3) := by decide +kernel
theorem d_En_length_11 : decode b_En_length 11 = .ok (.aload_n 0, 1) := by decide +kernel
theorem d_En_length_12 : decode b_En_length 12 = .ok (.getfield 79, 3) := by decide +kernel
theorem d_En_length_15 : decode b_En_length 15 = .ok (.invokevirtual 198, 3) := by decide +kernel
theorem d_En_length_18 : decode b_En_length 18 = .ok (.ireturn, 1) := by decide +kernel
theorem d_En_mayDoNext_0 : decode b_En_mayDoNext 0 = .ok (.aload_n 0, 1) := by decide +kernel
theorem d_En_mayDoNext_1 : decode b_En_mayDoNext 1 = .ok (.getfield 27, 3) := by decide +kernel
theorem d_En_mayDoNext_4 : decode b_En_mayDoNext 4 = .ok (.invokevirtual 126, 3) := by decide +kernel
theorem d_En_mayDoNext_7 : decode b_En_mayDoNext 7 = .ok (.ifCond .eq 13, 3) := by decide +kernel
theorem d_En_mayDoNext_10 : decode b_En_mayDoNext 10 = .ok (.aload_n 0, 1) := by decide +kernel
theorem d_En_mayDoNext_11 : decode b_En_mayDoNext 11 = .ok (.getfield 201, 3) := by decide +kernel
theorem d_En_mayDoNext_14 : decode b_En_mayDoNext 14 = .ok (.sipush 2000, 3) := by decide +kernel
theorem d_En_mayDoNext_17 : decode b_En_mayDoNext 17 = .ok (.if_icmp .lt 5, 3) := by decide +kernel
theorem d_En_mayDoNext_20 : decode b_En_mayDoNext 20 = .ok (.iconst 0, 1) := by decide +kernel
theorem d_En_mayDoNext_21 : decode b_En_mayDoNext 21 = .ok (.ireturn, 1) := by decide +kernel
theorem d_En_mayDoNext_22 : decode b_En_mayDoNext 22 = .ok (.aload_n 0, 1) := by decide +kernel
theorem d_En_mayDoNext_23 : decode b_En_mayDoNext 23 = .ok (.getfield 27, 3) := by decide +kernel
theorem d_En_mayDoNext_26 : decode b_En_mayDoNext 26 = .ok (.invokevirtual 135, 3) := by decide +kernel
theorem d_En_mayDoNext_29 : decode b_En_mayDoNext 29 = .ok (.bipush 16, 2) := by decide +kernel
theorem d_En_mayDoNext_31 : decode b_En_mayDoNext 31 = .ok (.if_icmp .lt 13, 3) := by decide +kernel
theorem d_En_mayDoNext_34 : decode b_En_mayDoNext 34 = .ok (.aload_n 0, 1) := by decide +kernel
theorem d_En_mayDoNext_35 : decode b_En_mayDoNext 35 = .ok (.getfield 204, 3) := by decide +kernel
theorem d_En_mayDoNext_38 : decode b_En_mayDoNext 38 = .ok (.sipush 200, 3) := by decide +kernel
theorem d_En_mayDoNext_41 : decode b_En_mayDoNext 41 = .ok (.if_icmp .ge 7, 3) := by decide +kernel
theorem d_En_mayDoNext_44 : decode b_En_mayDoNext 44 = .ok (.iconst 1, 1) := by decide +kernel
theorem d_En_mayDoNext_45 : decode b_En_mayDoNext 45 = .ok (.goto 4, 3) := by decide +kernel
theorem d_En_mayDoNext_48 : decode b_En_mayDoNext 48 = .ok (.iconst 0, 1) := by decide +kernel
theorem d_En_mayDoNext_49 : decode b_En_mayDoNext 49 = .ok (.ireturn, 1) := by decide +kernel
theorem d_En_measure_0 : decode b_En_measure 0 = .ok (.aload_n 0, 1) := by decide +kernel
theorem d_En_measure_1 : decode b_En_measure 1 = .ok (.getfield 66, 3) := by decide +kernel
theorem d_En_measure_4 : decode b_En_measure 4 = .ok (.getfield 160, 3) := by decide +kernel
theorem d_En_measure_7 : decode b_En_measure 7 = .ok (.bipush 9, 2) := by decide +kernel
theorem d_En_measure_9 : decode b_En_measure 9 = .ok (.if_icmp .gt 15, 3) := by decide +kernel
theorem d_En_measure_12 : decode b_En_measure 12 = .ok (.aload_n 0, 1) := by decide +kernel
theorem d_En_measure_13 : decode b_En_measure 13 = .ok (.getfield 66, 3) := by decide +kernel
theorem d_En_measure_16 : decode b_En_measure 16 = .ok (.getfield 157, 3) := by decide +kernel
theorem d_En_measure_19 : decode b_En_measure 19 = .ok (.bipush 10, 2) := by decide +kernel
theorem d_En_measure_21 : decode b_En_measure 21 = .ok (.if_icmp .le 14, 3) := by decide +kernel
theorem d_En_measure_24 : decode b_En_measure 24 = .ok (.aload_n 0, 1) := by decide +kernel
theorem d_En_measure_25 : decode b_En_measure 25 = .ok (.getfield 31, 3) := by decide +kernel
theorem d_En_measure_28 : decode b_En_measure 28 = .ok (.ldc_w 351, 3) := by decide +kernel
theorem d_En_measure_31 : decode b_En_measure 31 = .ok (.invokevirtual 245, 3) := by decide +kernel
theorem d_En_measure_34 : decode b_En_measure 34 = .ok (.return_, 1) := by decide +kernel
theorem d_En_measure_35 : decode b_En_measure 35 = .ok (.aload_n 0, 1) := by decide +kernel
theorem d_En_measure_36 : decode b_En_measure 36 = .ok (.getfield 66, 3) := by decide +kernel
theorem d_En_measure_39 : decode b_En_measure 39 = .ok (.invokevirtual 166, 3) := by decide +kernel
theorem d_En_measure_42 : decode b_En_measure 42 = .ok (.astore_n 2, 1) := by decide +kernel
theorem d_En_measure_43 : decode b_En_measure 43 = .ok (.iload_n 1, 1) := by decide +kernel
theorem d_En_measure_44 : decode b_En_measure 44 = .ok (.bipush 18, 2) := by decide +kernel
theorem d_En_measure_46 : decode b_En_measure 46 = .ok (.if_icmp .ne 22, 3) := by decide +kernel
theorem d_En_measure_49 : decode b_En_measure 49 = .ok (.aload_n 0, 1) := by decide +kernel
theorem d_En_measure_50 : decode b_En_measure 50 = .ok (.getfield 52, 3) := by decide +kernel
theorem d_En_measure_53 : decode b_En_measure 53 = .ok (.aload_n 0, 1) := by decide +kernel
theorem d_En_measure_54 : decode b_En_measure 54 = .ok (.getfield 66, 3) := by decide +kernel
theorem d_En_measure_57 : decode b_En_measure 57 = .ok (.aload_n 2, 1) := by decide +kernel
theorem d_En_measure_58 : decode b_En_measure 58 = .ok (.aload_n 0, 1) := by decide +kernel
theorem d_En_measure_59 : decode b_En_measure 59 = .ok (.getfield 59, 3) := by decide +kernel
theorem d_En_measure_62 : decode b_En_measure 62 = .ok (.invokevirtual 353, 3) := by decide +kernel
theorem d_En_measure_65 : decode b_En_measure 65 = .ok (.goto 40, 3) := by decide +kernel
theorem d_En_measure_68 : decode b_En_measure 68 = .ok (.aload_n 0, 1) := by decide +kernel
theorem d_En_measure_69 : decode b_En_measure 69 = .ok (.getfield 45, 3) := by decide +kernel
theorem d_En_measure_72 : decode b_En_measure 72 = .ok (.aload_n 0, 1) := by decide +kernel
theorem d_En_measure_73 : decode b_En_measure 73 = .ok (.getfield 66, 3) := by decide +kernel
theorem d_En_measure_76 : decode b_En_measure 76 = .ok (.aload_n 2, 1) := by decide +kernel
theorem d_En_measure_77 : decode b_En_measure 77 = .ok (.aload_n 0, 1) := by decide +kernel
theorem d_En_measure_78 : decode b_En_measure 78 = .ok (.getfield 59, 3) := by decide +kernel
theorem d_En_measure_81 : decode b_En_measure 81 = .ok (.invokevirtual 357, 3) := by decide +kernel
theorem d_En_measure_84 : decode b_En_measure 84 = .ok (.iload_n 1, 1) := by decide +kernel
theorem d_En_measure_85 : decode b_En_measure 85 = .ok (.bipush 17, 2) := by decide +kernel
theorem d_En_measure_87 : decode b_En_measure 87 = .ok (.if_icmp .ne 18, 3) := by decide +kernel
theorem d_En_measure_90 : decode b_En_measure 90 = .ok (.aload_n 0, 1) := by decide +kernel
theorem d_En_measure_91 : decode b_En_measure 91 = .ok (.getfield 59, 3) := by decide +kernel
theorem d_En_measure_94 : decode b_En_measure 94 = .ok (.aload_n 0, 1) := by decide +kernel
theorem d_En_measure_95 : decode b_En_measure 95 = .ok (.getfield 66, 3) := by decide +kernel
theorem d_En_measure_98 : decode b_En_measure 98 = .ok (.invokevirtual 163, 3) := by decide +kernel
theorem d_En_measure_101 : decode b_En_measure 101 = .ok (.ineg, 1) := by decide +kernel
theorem d_En_measure_102 : decode b_En_measure 102 = .ok (.invokevirtual 360, 3) := by decide +kernel
theorem d_En_measure_105 : decode b_En_measure 105 = .ok (.aload_n 0, 1) := by decide +kernel
theorem d_En_measure_106 : decode b_En_measure 106 = .ok (.getfield 27, 3) := by decide +kernel
theorem d_En_measure_109 : decode b_En_measure 109 = .ok (.invokevirtual 363, 3) := by decide +kernel
theorem d_En_measure_112 : decode b_En_measure 112 = .ok (.ifCond .ne 18, 3) := by decide +kernel
theorem d_En_measure_115 : decode b_En_measure 115 = .ok (.aload_n 0, 1) := by decide +kernel
theorem d_En_measure_116 : decode b_En_measure 116 = .ok (.getfield 31, 3) := by decide +kernel
theorem d_En_measure_119 : decode b_En_measure 119 = .ok (.iload_n 1, 1) := by decide +kernel
theorem d_En_measure_120 : decode b_En_measure 120 = .ok (.aload_n 0, 1) := by decide +kernel
theorem d_En_measure_121 : decode b_En_measure 121 = .ok (.getfield 59, 3) := by decide +kernel
theorem d_En_measure_124 : decode b_En_measure 124 = .ok (.invokevirtual 366, 3) := by decide +kernel
theorem d_En_measure_127 : decode b_En_measure 127 = .ok (.goto 32, 3) := by decide +kernel
theorem d_En_measure_130 : decode b_En_measure 130 = .ok (.aload_n 0, 1) := by decide +kernel
theorem d_En_measure_131 : decode b_En_measure 131 = .ok (.getfield 31, 3) := by decide +kernel
theorem d_En_measure_134 : decode b_En_measure 134 = .ok (.aload_n 0, 1) := by decide +kernel
theorem d_En_measure_135 : decode b_En_measure 135 = .ok (.getfield 59, 3) := by decide +kernel
theorem d_En_measure_138 : decode b_En_measure 138 = .ok (.aload_n 0, 1) := by decide +kernel
theorem d_En_measure_139 : decode b_En_measure 139 = .ok (.getfield 27, 3) := by decide +kernel
theorem d_En_measure_142 : decode b_En_measure 142 = .ok (.invokevirtual 370, 3) := by decide +kernel
theorem d_En_measure_145 : decode b_En_measure 145 = .ok (.ifCond .eq 9, 3) := by decide +kernel
theorem d_En_measure_148 : decode b_En_measure 148 = .ok (.ldc_w 373, 3) := by decide +kernel
theorem d_En_measure_151 : decode b_En_measure 151 = .ok (.goto 5, 3) := by decide +kernel
theorem d_En_measure_154 : decode b_En_measure 154 = .ok (.ldc 243, 2) := by decide +kernel
theorem d_En_measure_156 : decode b_En_measure 156 = .ok (.invokevirtual 245, 3) := by decide +kernel
theorem d_En_measure_159 : decode b_En_measure 159 = .ok (.return_, 1) := by decide +kernel
theorem d_En_move_0 : decode b_En_move 0 = .ok (.aload_n 0, 1) := by decide +kernel
theorem d_En_move_1 : decode b_En_move 1 = .ok (.getfield 66, 3) := by decide +kernel
theorem d_En_move_4 : decode b_En_move 4 = .ok (.invokevirtual 166, 3) := by decide +kernel
theorem d_En_move_7 : decode b_En_move 7 = .ok (.astore_n 2, 1) := by decide +kernel
theorem d_En_move_8 : decode b_En_move 8 = .ok (.aload_n 0, 1) := by decide +kernel
theorem d_En_move_9 : decode b_En_move 9 = .ok (.getfield 27, 3) := by decide +kernel
theorem d_En_move_12 : decode b_En_move 12 = .ok (.iconst 0, 1) := by decide +kernel
theorem d_En_move_13 : decode b_En_move 13 = .ok (.invokevirtual 249, 3) := by decide +kernel
theorem d_En_move_16 : decode b_En_move 16 = .ok (.istore_n 3, 1) := by decide +kernel
theorem d_En_move_17 : decode b_En_move 17 = .ok (.iload_n 1, 1) := by decide +kernel
theorem d_En_move_18 : decode b_En_move 18 = .ok (.tableswitch 195 4 12 #[50, 64, 103, 195, 142, 150, 164, 173, 182], 50) := by decide +kernel
theorem d_En_move_68 : decode b_En_move 68 = .ok (.aload_n 0, 1) := by decide +kernel
theorem d_En_move_69 : decode b_En_move 69 = .ok (.getfield 38, 3) := by decide +kernel
theorem d_En_move_72 : decode b_En_move 72 = .ok (.aload_n 2, 1) := by decide +kernel
theorem d_En_move_73 : decode b_En_move 73 = .ok (.aload_n 0, 1) := by decide +kernel
theorem d_En_move_74 : decode b_En_move 74 = .ok (.getfield 70, 3) := by decide +kernel
theorem d_En_move_77 : decode b_En_move 77 = .ok (.iload_n 3, 1) := by decide +kernel
theorem d_En_move_78 : decode b_En_move 78 = .ok (.invokevirtual 253, 3) := by decide +kernel
theorem d_En_move_81 : decode b_En_move 81 = .ok (.ireturn, 1) := by decide +kernel
theorem d_En_move_82 : decode b_En_move 82 = .ok (.aload_n 0, 1) := by decide +kernel
theorem d_En_move_83 : decode b_En_move 83 = .ok (.getfield 38, 3) := by decide +kernel
theorem d_En_move_86 : decode b_En_move 86 = .ok (.aload_n 2, 1) := by decide +kernel
theorem d_En_move_87 : decode b_En_move 87 = .ok (.aload_n 0, 1) := by decide +kernel
theorem d_En_move_88 : decode b_En_move 88 = .ok (.getfield 70, 3) := by decide +kernel
theorem d_En_move_91 : decode b_En_move 91 = .ok (.iload_n 3, 1) := by decide +kernel
theorem d_En_move_92 : decode b_En_move 92 = .ok (.aload_n 0, 1) := by decide +kernel
theorem d_En_move_93 : decode b_En_move 93 = .ok (.getfield 27, 3) := by decide +kernel
theorem d_En_move_96 : decode b_En_move 96 = .ok (.iconst 1, 1) := by decide +kernel
theorem d_En_move_97 : decode b_En_move 97 = .ok (.invokevirtual 249, 3) := by decide +kernel
theorem d_En_move_100 : decode b_En_move 100 = .ok (.aload_n 0, 1) := by decide +kernel
theorem d_En_move_101 : decode b_En_move 101 = .ok (.getfield 27, 3) := by decide +kernel
theorem d_En_move_104 : decode b_En_move 104 = .ok (.iconst 2, 1) := by decide +kernel
theorem d_En_move_105 : decode b_En_move 105 = .ok (.invokevirtual 249, 3) := by decide +kernel
theorem d_En_move_108 : decode b_En_move 108 = .ok (.iconst 1, 1) := by decide +kernel
theorem d_En_move_109 : decode b_En_move 109 = .ok (.if_icmp .ne 7, 3) := by decide +kernel
theorem d_En_move_112 : decode b_En_move 112 = .ok (.iconst 1, 1) := by decide +kernel
theorem d_En_move_113 : decode b_En_move 113 = .ok (.goto 4, 3) := by decide +kernel
theorem d_En_move_116 : decode b_En_move 116 = .ok (.iconst 0, 1) := by decide +kernel
theorem d_En_move_117 : decode b_En_move 117 = .ok (.invokevirtual 257, 3) := by decide +kernel
theorem d_En_move_120 : decode b_En_move 120 = .ok (.ireturn, 1) := by decide +kernel
theorem d_En_move_121 : decode b_En_move 121 = .ok (.aload_n 0, 1) := by decide +kernel
theorem d_En_move_122 : decode b_En_move 122 = .ok (.getfield 38, 3) := by decide +kernel
theorem d_En_move_125 : decode b_En_move 125 = .ok (.aload_n 2, 1) := by decide +kernel
theorem d_En_move_126 : decode b_En_move 126 = .ok (.aload_n 0, 1) := by decide +kernel
theorem d_En_move_127 : decode b_En_move 127 = .ok (.getfield 70, 3) := by decide +kernel
theorem d_En_move_130 : decode b_En_move 130 = .ok (.iload_n 3, 1) := by decide +kernel
theorem d_En_move_131 : decode b_En_move 131 = .ok (.aload_n 0, 1) := by decide +kernel
theorem d_En_move_132 : decode b_En_move 132 = .ok (.getfield 27, 3) := by decide +kernel
theorem d_En_move_135 : decode b_En_move 135 = .ok (.iconst 2, 1) := by decide +kernel
theorem d_En_move_136 : decode b_En_move 136 = .ok (.invokevirtual 249, 3) := by decide +kernel
theorem d_En_move_139 : decode b_En_move 139 = .ok (.aload_n 0, 1) := by decide +kernel
theorem d_En_move_140 : decode b_En_move 140 = .ok (.getfield 27, 3) := by decide +kernel
theorem d_En_move_143 : decode b_En_move 143 = .ok (.iconst 1, 1) := by decide +kernel
theorem d_En_move_144 : decode b_En_move 144 = .ok (.invokevirtual 249, 3) := by decide +kernel
theorem d_En_move_147 : decode b_En_move 147 = .ok (.iconst 1, 1) := by decide +kernel
theorem d_En_move_148 : decode b_En_move 148 = .ok (.if_icmp .ne 7, 3) := by decide +kernel
theorem d_En_move_151 : decode b_En_move 151 = .ok (.iconst 1, 1) := by decide +kernel
theorem d_En_move_152 : decode b_En_move 152 = .ok (.goto 4, 3) := by decide +kernel
theorem d_En_move_155 : decode b_En_move 155 = .ok (.iconst 0, 1) := by decide +kernel
theorem d_En_move_156 : decode b_En_move 156 = .ok (.invokevirtual 261, 3) := by decide +kernel
theorem d_En_move_159 : decode b_En_move 159 = .ok (.ireturn, 1) := by decide +kernel
theorem d_En_move_160 : decode b_En_move 160 = .ok (.aload_n 0, 1) := by decide +kernel
theorem d_En_move_161 : decode b_En_move 161 = .ok (.getfield 70, 3) := by decide +kernel
theorem d_En_move_164 : decode b_En_move 164 = .ok (.invokevirtual 264, 3) := by decide +kernel
theorem d_En_move_167 : decode b_En_move 167 = .ok (.ireturn, 1) := by decide +kernel
theorem d_En_move_168 : decode b_En_move 168 = .ok (.aload_n 0, 1) := by decide +kernel
theorem d_En_move_169 : decode b_En_move 169 = .ok (.getfield 38, 3) := by decide +kernel
theorem d_En_move_172 : decode b_En_move 172 = .ok (.aload_n 2, 1) := by decide +kernel
theorem d_En_move_173 : decode b_En_move 173 = .ok (.aload_n 0, 1) := by decide +kernel
theorem d_En_move_174 : decode b_En_move 174 = .ok (.getfield 70, 3) := by decide +kernel
theorem d_En_move_177 : decode b_En_move 177 = .ok (.iload_n 3, 1) := by decide +kernel
theorem d_En_move_178 : decode b_En_move 178 = .ok (.invokevirtual 267, 3) := by decide +kernel
theorem d_En_move_181 : decode b_En_move 181 = .ok (.ireturn, 1) := by decide +kernel
theorem d_En_move_182 : decode b_En_move 182 = .ok (.aload_n 0, 1) := by decide +kernel
theorem d_En_move_183 : decode b_En_move 183 = .ok (.getfield 70, 3) := by decide +kernel
theorem d_En_move_186 : decode b_En_move 186 = .ok (.iload_n 3, 1) := by decide +kernel
theorem d_En_move_187 : decode b_En_move 187 = .ok (.invokevirtual 270, 3) := by decide +kernel
theorem d_En_move_190 : decode b_En_move 190 = .ok (.ireturn, 1) := by decide +kernel
theorem d_En_move_191 : decode b_En_move 191 = .ok (.aload_n 0, 1) := by decide +kernel
theorem d_En_move_192 : decode b_En_move 192 = .ok (.getfield 70, 3) := by decide +kernel
theorem d_En_move_195 : decode b_En_move 195 = .ok (.iload_n 3, 1) := by decide +kernel
theorem d_En_move_196 : decode b_En_move 196 = .ok (.invokevirtual 273, 3) := by decide +kernel
theorem d_En_move_199 : decode b_En_move 199 = .ok (.ireturn, 1) := by decide +kernel
theorem d_En_move_200 : decode b_En_move 200 = .ok (.aload_n 0, 1) := by decide +kernel
theorem d_En_move_201 : decode b_En_move 201 = .ok (.getfield 38, 3) := by decide +kernel
theorem d_En_move_204 : decode b_En_move 204 = .ok (.aload_n 2, 1) := by decide +kernel
theorem d_En_move_205 : decode b_En_move 205 = .ok (.aload_n 0, 1) := by decide +kernel
theorem d_En_move_206 : decode b_En_move 206 = .ok (.getfield 70, 3) := by decide +kernel
