theorem d_Br_close_6 : decode b_Br_close 6 = .ok (.iload_n 2, 1) := by decide +kernel
theorem d_Br_close_7 : decode b_Br_close 7 = .ok (.aload_n 0, 1) := by decide +kernel
theorem d_Br_close_8 : decode b_Br_close 8 = .ok (.getfield 21, 3) := by decide +kernel
theorem d_Br_close_11 : decode b_Br_close 11 = .ok (.if_icmp .ge 18, 3) := by decide +kernel
theorem d_Br_close_14 : decode b_Br_close 14 = .ok (.aload_n 0, 1) := by decide +kernel
theorem d_Br_close_15 : decode b_Br_close 15 = .ok (.getfield 18, 3) := by decide +kernel
theorem d_Br_close_18 : decode b_Br_close 18 = .ok (.iload_n 2, 1) := by decide +kernel
theorem d_Br_close_19 : decode b_Br_close 19 = .ok (.iload_n 2, 1) := by decide +kernel
theorem d_Br_close_20 : decode b_Br_close 20 = .ok (.iconst 1, 1) := by decide +kernel
theorem d_Br_close_21 : decode b_Br_close 21 = .ok (.iadd, 1) := by decide +kernel
theorem d_Br_close_22 : decode b_Br_close 22 = .ok (.iastore, 1) := by decide +kernel
theorem d_Br_close_23 : decode b_Br_close 23 = .ok (.iinc 2 1, 3) := by decide +kernel
theorem d_Br_close_26 : decode b_Br_close 26 = .ok (.goto (-20), 3) := by decide +kernel
theorem d_Br_close_29 : decode b_Br_close 29 = .ok (.iconst 0, 1) := by decide +kernel
theorem d_Br_close_30 : decode b_Br_close 30 = .ok (.istore_n 2, 1) := by decide +kernel
theorem d_Br_close_31 : decode b_Br_close 31 = .ok (.iload_n 2, 1) := by decide +kernel
theorem d_Br_close_32 : decode b_Br_close 32 = .ok (.aload_n 0, 1) := by decide +kernel
theorem d_Br_close_33 : decode b_Br_close 33 = .ok (.getfield 40, 3) := by decide +kernel
theorem d_Br_close_36 : decode b_Br_close 36 = .ok (.if_icmp .ge 108, 3) := by decide +kernel
theorem d_Br_close_39 : decode b_Br_close 39 = .ok (.aload_n 0, 1) := by decide +kernel
theorem d_Br_close_40 : decode b_Br_close 40 = .ok (.getfield 9, 3) := by decide +kernel
theorem d_Br_close_43 : decode b_Br_close 43 = .ok (.iload_n 2, 1) := by decide +kernel
theorem d_Br_close_44 : decode b_Br_close 44 = .ok (.iaload, 1) := by decide +kernel
theorem d_Br_close_45 : decode b_Br_close 45 = .ok (.invokestatic 35, 3) := by decide +kernel
theorem d_Br_close_48 : decode b_Br_close 48 = .ok (.istore_n 3, 1) := by decide +kernel
theorem d_Br_close_49 : decode b_Br_close 49 = .ok (.iload_n 3, 1) := by decide +kernel
theorem d_Br_close_50 : decode b_Br_close 50 = .ok (.iconst 1, 1) := by decide +kernel
theorem d_Br_close_51 : decode b_Br_close 51 = .ok (.isub, 1) := by decide +kernel
theorem d_Br_close_52 : decode b_Br_close 52 = .ok (.istore 4, 2) := by decide +kernel
theorem d_Br_close_54 : decode b_Br_close 54 = .ok (.aload_n 0, 1) := by decide +kernel
theorem d_Br_close_55 : decode b_Br_close 55 = .ok (.getfield 21, 3) := by decide +kernel
theorem d_Br_close_58 : decode b_Br_close 58 = .ok (.iconst 2, 1) := by decide +kernel
theorem d_Br_close_59 : decode b_Br_close 59 = .ok (.iload_n 2, 1) := by decide +kernel
theorem d_Br_close_60 : decode b_Br_close 60 = .ok (.imul, 1) := by decide +kernel
theorem d_Br_close_61 : decode b_Br_close 61 = .ok (.iadd, 1) := by decide +kernel
theorem d_Br_close_62 : decode b_Br_close 62 = .ok (.iconst 1, 1) := by decide +kernel
theorem d_Br_close_63 : decode b_Br_close 63 = .ok (.iadd, 1) := by decide +kernel
theorem d_Br_close_64 : decode b_Br_close 64 = .ok (.istore 5, 2) := by decide +kernel
theorem d_Br_close_66 : decode b_Br_close 66 = .ok (.iload 5, 2) := by decide +kernel
theorem d_Br_close_68 : decode b_Br_close 68 = .ok (.iconst 1, 1) := by decide +kernel
theorem d_Br_close_69 : decode b_Br_close 69 = .ok (.iadd, 1) := by decide +kernel
theorem d_Br_close_70 : decode b_Br_close 70 = .ok (.istore 6, 2) := by decide +kernel
theorem d_Br_close_72 : decode b_Br_close 72 = .ok (.aload_n 0, 1) := by decide +kernel
theorem d_Br_close_73 : decode b_Br_close 73 = .ok (.getfield 9, 3) := by decide +kernel
theorem d_Br_close_76 : decode b_Br_close 76 = .ok (.iload_n 2, 1) := by decide +kernel
theorem d_Br_close_77 : decode b_Br_close 77 = .ok (.iaload, 1) := by decide +kernel
theorem d_Br_close_78 : decode b_Br_close 78 = .ok (.ifCond .le 7, 3) := by decide +kernel
theorem d_Br_close_81 : decode b_Br_close 81 = .ok (.iconst 1, 1) := by decide +kernel
theorem d_Br_close_82 : decode b_Br_close 82 = .ok (.goto 4, 3) := by decide +kernel
theorem d_Br_close_85 : decode b_Br_close 85 = .ok (.iconst (-1), 1) := by decide +kernel
theorem d_Br_close_86 : decode b_Br_close 86 = .ok (.istore 7, 2) := by decide +kernel
theorem d_Br_close_88 : decode b_Br_close 88 = .ok (.aload_n 1, 1) := by decide +kernel
theorem d_Br_close_89 : decode b_Br_close 89 = .ok (.iload 7, 2) := by decide +kernel
theorem d_Br_close_91 : decode b_Br_close 91 = .ok (.iload 7, 2) := by decide +kernel
theorem d_Br_close_93 : decode b_Br_close 93 = .ok (.ifCond .ge 7, 3) := by decide +kernel
theorem d_Br_close_96 : decode b_Br_close 96 = .ok (.iconst 1, 1) := by decide +kernel
theorem d_Br_close_97 : decode b_Br_close 97 = .ok (.goto 4, 3) := by decide +kernel
theorem d_Br_close_100 : decode b_Br_close 100 = .ok (.iconst 0, 1) := by decide +kernel
theorem d_Br_close_101 : decode b_Br_close 101 = .ok (.aload_n 0, 1) := by decide +kernel
theorem d_Br_close_102 : decode b_Br_close 102 = .ok (.getfield 18, 3) := by decide +kernel
theorem d_Br_close_105 : decode b_Br_close 105 = .ok (.iload 4, 2) := by decide +kernel
theorem d_Br_close_107 : decode b_Br_close 107 = .ok (.iaload, 1) := by decide +kernel
theorem d_Br_close_108 : decode b_Br_close 108 = .ok (.iload 6, 2) := by decide +kernel
theorem d_Br_close_110 : decode b_Br_close 110 = .ok (.aload_n 0, 1) := by decide +kernel
theorem d_Br_close_111 : decode b_Br_close 111 = .ok (.getfield 18, 3) := by decide +kernel
theorem d_Br_close_114 : decode b_Br_close 114 = .ok (.iload_n 3, 1) := by decide +kernel
theorem d_Br_close_115 : decode b_Br_close 115 = .ok (.iaload, 1) := by decide +kernel
theorem d_Br_close_116 : decode b_Br_close 116 = .ok (.iload 5, 2) := by decide +kernel
theorem d_Br_close_118 : decode b_Br_close 118 = .ok (.invokevirtual 52, 3) := by decide +kernel
theorem d_Br_close_121 : decode b_Br_close 121 = .ok (.aload_n 0, 1) := by decide +kernel
theorem d_Br_close_122 : decode b_Br_close 122 = .ok (.getfield 18, 3) := by decide +kernel
theorem d_Br_close_125 : decode b_Br_close 125 = .ok (.iload 4, 2) := by decide +kernel
theorem d_Br_close_127 : decode b_Br_close 127 = .ok (.iload 5, 2) := by decide +kernel
theorem d_Br_close_129 : decode b_Br_close 129 = .ok (.iastore, 1) := by decide +kernel
theorem d_Br_close_130 : decode b_Br_close 130 = .ok (.aload_n 0, 1) := by decide +kernel
theorem d_Br_close_131 : decode b_Br_close 131 = .ok (.getfield 18, 3) := by decide +kernel
theorem d_Br_close_134 : decode b_Br_close 134 = .ok (.iload_n 3, 1) := by decide +kernel
theorem d_Br_close_135 : decode b_Br_close 135 = .ok (.iload 6, 2) := by decide +kernel
theorem d_Br_close_137 : decode b_Br_close 137 = .ok (.iastore, 1) := by decide +kernel
theorem d_Br_close_138 : decode b_Br_close 138 = .ok (.iinc 2 1, 3) := by decide +kernel
theorem d_Br_close_141 : decode b_Br_close 141 = .ok (.goto (-110), 3) := by decide +kernel
theorem d_Br_close_144 : decode b_Br_close 144 = .ok (.iconst 0, 1) := by decide +kernel
theorem d_Br_close_145 : decode b_Br_close 145 = .ok (.istore_n 2, 1) := by decide +kernel
theorem d_Br_close_146 : decode b_Br_close 146 = .ok (.iload_n 2, 1) := by decide +kernel
theorem d_Br_close_147 : decode b_Br_close 147 = .ok (.aload_n 0, 1) := by decide +kernel
theorem d_Br_close_148 : decode b_Br_close 148 = .ok (.getfield 21, 3) := by decide +kernel
theorem d_Br_close_151 : decode b_Br_close 151 = .ok (.if_icmp .ge 47, 3) := by decide +kernel
theorem d_Br_close_154 : decode b_Br_close 154 = .ok (.aload_n 0, 1) := by decide +kernel
theorem d_Br_close_155 : decode b_Br_close 155 = .ok (.getfield 18, 3) := by decide +kernel
theorem d_Br_close_158 : decode b_Br_close 158 = .ok (.iload_n 2, 1) := by decide +kernel
theorem d_Br_close_159 : decode b_Br_close 159 = .ok (.iaload, 1) := by decide +kernel
theorem d_Br_close_160 : decode b_Br_close 160 = .ok (.iload_n 2, 1) := by decide +kernel
theorem d_Br_close_161 : decode b_Br_close 161 = .ok (.iconst 1, 1) := by decide +kernel
theorem d_Br_close_162 : decode b_Br_close 162 = .ok (.iadd, 1) := by decide +kernel
theorem d_Br_close_163 : decode b_Br_close 163 = .ok (.if_icmp .ne 16, 3) := by decide +kernel
theorem d_Br_close_166 : decode b_Br_close 166 = .ok (.aload_n 1, 1) := by decide +kernel
theorem d_Br_close_167 : decode b_Br_close 167 = .ok (.dup, 1) := by decide +kernel
theorem d_Br_close_168 : decode b_Br_close 168 = .ok (.getfield 56, 3) := by decide +kernel
theorem d_Br_close_171 : decode b_Br_close 171 = .ok (.iconst 1, 1) := by decide +kernel
theorem d_Br_close_172 : decode b_Br_close 172 = .ok (.iadd, 1) := by decide +kernel
theorem d_Br_close_173 : decode b_Br_close 173 = .ok (.putfield 56, 3) := by decide +kernel
theorem d_Br_close_176 : decode b_Br_close 176 = .ok (.goto 16, 3) := by decide +kernel
theorem d_Br_close_179 : decode b_Br_close 179 = .ok (.aload_n 1, 1) := by decide +kernel
theorem d_Br_close_180 : decode b_Br_close 180 = .ok (.aload_n 0, 1) := by decide +kernel
theorem d_Br_close_181 : decode b_Br_close 181 = .ok (.getfield 18, 3) := by decide +kernel
theorem d_Br_close_184 : decode b_Br_close 184 = .ok (.iload_n 2, 1) := by decide +kernel
theorem d_Br_close_185 : decode b_Br_close 185 = .ok (.iaload, 1) := by decide +kernel
theorem d_Br_close_186 : decode b_Br_close 186 = .ok (.iload_n 2, 1) := by decide +kernel
theorem d_Br_close_187 : decode b_Br_close 187 = .ok (.iconst 1, 1) := by decide +kernel
theorem d_Br_close_188 : decode b_Br_close 188 = .ok (.iadd, 1) := by decide +kernel
theorem d_Br_close_189 : decode b_Br_close 189 = .ok (.invokevirtual 59, 3) := by decide +kernel
theorem d_Br_close_192 : decode b_Br_close 192 = .ok (.iinc 2 1, 3) := by decide +kernel
theorem d_Br_close_195 : decode b_Br_close 195 = .ok (.goto (-49), 3) := by decide +kernel
theorem d_Br_close_198 : decode b_Br_close 198 = .ok (.return_, 1) := by decide +kernel
theorem d_Br_conjugateByTurn_0 : decode b_Br_conjugateByTurn 0 = .ok (.aload_n 0, 1) := by decide +kernel
theorem d_Br_conjugateByTurn_1 : decode b_Br_conjugateByTurn 1 = .ok (.getfield 21, 3) := by decide +kernel
theorem d_Br_conjugateByTurn_4 : decode b_Br_conjugateByTurn 4 = .ok (.iconst 1, 1) := by decide +kernel
theorem d_Br_conjugateByTurn_5 : decode b_Br_conjugateByTurn 5 = .ok (.isub, 1) := by decide +kernel
theorem d_Br_conjugateByTurn_6 : decode b_Br_conjugateByTurn 6 = .ok (.istore_n 2, 1) := by decide +kernel
theorem d_Br_conjugateByTurn_7 : decode b_Br_conjugateByTurn 7 = .ok (.iconst 0, 1) := by decide +kernel
theorem d_Br_conjugateByTurn_8 : decode b_Br_conjugateByTurn 8 = .ok (.istore_n 3, 1) := by decide +kernel
theorem d_Br_conjugateByTurn_9 : decode b_Br_conjugateByTurn 9 = .ok (.iload_n 3, 1) := by decide +kernel
theorem d_Br_conjugateByTurn_10 : decode b_Br_conjugateByTurn 10 = .ok (.iload_n 2, 1) := by decide +kernel
theorem d_Br_conjugateByTurn_11 : decode b_Br_conjugateByTurn 11 = .ok (.iload_n 3, 1) := by decide +kernel
theorem d_Br_conjugateByTurn_12 : decode b_Br_conjugateByTurn 12 = .ok (.isub, 1) := by decide +kernel
theorem d_Br_conjugateByTurn_13 : decode b_Br_conjugateByTurn 13 = .ok (.if_icmp .gt 53, 3) := by decide +kernel
theorem d_Br_conjugateByTurn_16 : decode b_Br_conjugateByTurn 16 = .ok (.aload_n 0, 1) := by decide +kernel
theorem d_Br_conjugateByTurn_17 : decode b_Br_conjugateByTurn 17 = .ok (.getfield 15, 3) := by decide +kernel
theorem d_Br_conjugateByTurn_20 : decode b_Br_conjugateByTurn 20 = .ok (.iload_n 1, 1) := by decide +kernel
theorem d_Br_conjugateByTurn_21 : decode b_Br_conjugateByTurn 21 = .ok (.iload_n 3, 1) := by decide +kernel
theorem d_Br_conjugateByTurn_22 : decode b_Br_conjugateByTurn 22 = .ok (.iadd, 1) := by decide +kernel
theorem d_Br_conjugateByTurn_23 : decode b_Br_conjugateByTurn 23 = .ok (.iaload, 1) := by decide +kernel
theorem d_Br_conjugateByTurn_24 : decode b_Br_conjugateByTurn 24 = .ok (.istore 4, 2) := by decide +kernel
theorem d_Br_conjugateByTurn_26 : decode b_Br_conjugateByTurn 26 = .ok (.aload_n 0, 1) := by decide +kernel
theorem d_Br_conjugateByTurn_27 : decode b_Br_conjugateByTurn 27 = .ok (.getfield 15, 3) := by decide +kernel
theorem d_Br_conjugateByTurn_30 : decode b_Br_conjugateByTurn 30 = .ok (.iload_n 1, 1) := by decide +kernel
theorem d_Br_conjugateByTurn_31 : decode b_Br_conjugateByTurn 31 = .ok (.iload_n 3, 1) := by decide +kernel
theorem d_Br_conjugateByTurn_32 : decode b_Br_conjugateByTurn 32 = .ok (.iadd, 1) := by decide +kernel
theorem d_Br_conjugateByTurn_33 : decode b_Br_conjugateByTurn 33 = .ok (.iload_n 2, 1) := by decide +kernel
theorem d_Br_conjugateByTurn_34 : decode b_Br_conjugateByTurn 34 = .ok (.aload_n 0, 1) := by decide +kernel
theorem d_Br_conjugateByTurn_35 : decode b_Br_conjugateByTurn 35 = .ok (.getfield 15, 3) := by decide +kernel
theorem d_Br_conjugateByTurn_38 : decode b_Br_conjugateByTurn 38 = .ok (.iload_n 1, 1) := by decide +kernel
theorem d_Br_conjugateByTurn_39 : decode b_Br_conjugateByTurn 39 = .ok (.iload_n 2, 1) := by decide +kernel
theorem d_Br_conjugateByTurn_40 : decode b_Br_conjugateByTurn 40 = .ok (.iadd, 1) := by decide +kernel
theorem d_Br_conjugateByTurn_41 : decode b_Br_conjugateByTurn 41 = .ok (.iload_n 3, 1) := by decide +kernel
theorem d_Br_conjugateByTurn_42 : decode b_Br_conjugateByTurn 42 = .ok (.isub, 1) := by decide +kernel
theorem d_Br_conjugateByTurn_43 : decode b_Br_conjugateByTurn 43 = .ok (.iaload, 1) := by decide +kernel
theorem d_Br_conjugateByTurn_44 : decode b_Br_conjugateByTurn 44 = .ok (.isub, 1) := by decide +kernel
theorem d_Br_conjugateByTurn_45 : decode b_Br_conjugateByTurn 45 = .ok (.iastore, 1) := by decide +kernel
theorem d_Br_conjugateByTurn_46 : decode b_Br_conjugateByTurn 46 = .ok (.aload_n 0, 1) := by decide +kernel
theorem d_Br_conjugateByTurn_47 : decode b_Br_conjugateByTurn 47 = .ok (.getfield 15, 3) := by decide +kernel
theorem d_Br_conjugateByTurn_50 : decode b_Br_conjugateByTurn 50 = .ok (.iload_n 1, 1) := by decide +kernel
theorem d_Br_conjugateByTurn_51 : decode b_Br_conjugateByTurn 51 = .ok (.iload_n 2, 1) := by decide +kernel
theorem d_Br_conjugateByTurn_52 : decode b_Br_conjugateByTurn 52 = .ok (.iadd, 1) := by decide +kernel
theorem d_Br_conjugateByTurn_53 : decode b_Br_conjugateByTurn 53 = .ok (.iload_n 3, 1) := by decide +kernel
theorem d_Br_conjugateByTurn_54 : decode b_Br_conjugateByTurn 54 = .ok (.isub, 1) := by decide +kernel
theorem d_Br_conjugateByTurn_55 : decode b_Br_conjugateByTurn 55 = .ok (.iload_n 2, 1) := by decide +kernel
theorem d_Br_conjugateByTurn_56 : decode b_Br_conjugateByTurn 56 = .ok (.iload 4, 2) := by decide +kernel
theorem d_Br_conjugateByTurn_58 : decode b_Br_conjugateByTurn 58 = .ok (.isub, 1) := by decide +kernel
theorem d_Br_conjugateByTurn_59 : decode b_Br_conjugateByTurn 59 = .ok (.iastore, 1) := by decide +kernel
theorem d_Br_conjugateByTurn_60 : decode b_Br_conjugateByTurn 60 = .ok (.iinc 3 1, 3) := by decide +kernel
theorem d_Br_conjugateByTurn_63 : decode b_Br_conjugateByTurn 63 = .ok (.goto (-54), 3) := by decide +kernel
theorem d_Br_conjugateByTurn_66 : decode b_Br_conjugateByTurn 66 = .ok (.return_, 1) := by decide +kernel
theorem d_Br_findForm_0 : decode b_Br_findForm 0 = .ok (.aload_n 0, 1) := by decide +kernel
theorem d_Br_findForm_1 : decode b_Br_findForm 1 = .ok (.getfield 43, 3) := by decide +kernel
theorem d_Br_findForm_4 : decode b_Br_findForm 4 = .ok (.ifCond .eq 4, 3) := by decide +kernel
theorem d_Br_findForm_7 : decode b_Br_findForm 7 = .ok (.return_, 1) := by decide +kernel
theorem d_Br_findForm_8 : decode b_Br_findForm 8 = .ok (.aload_n 0, 1) := by decide +kernel
theorem d_Br_findForm_9 : decode b_Br_findForm 9 = .ok (.iconst 0, 1) := by decide +kernel
theorem d_Br_findForm_10 : decode b_Br_findForm 10 = .ok (.putfield 69, 3) := by decide +kernel
theorem d_Br_findForm_13 : decode b_Br_findForm 13 = .ok (.aload_n 0, 1) := by decide +kernel
theorem d_Br_findForm_14 : decode b_Br_findForm 14 = .ok (.iconst 0, 1) := by decide +kernel
theorem d_Br_findForm_15 : decode b_Br_findForm 15 = .ok (.putfield 66, 3) := by decide +kernel
theorem d_Br_findForm_18 : decode b_Br_findForm 18 = .ok (.iconst 0, 1) := by decide +kernel
theorem d_Br_findForm_19 : decode b_Br_findForm 19 = .ok (.istore_n 1, 1) := by decide +kernel
theorem d_Br_findForm_20 : decode b_Br_findForm 20 = .ok (.iload_n 1, 1) := by decide +kernel
theorem d_Br_findForm_21 : decode b_Br_findForm 21 = .ok (.aload_n 0, 1) := by decide +kernel
theorem d_Br_findForm_22 : decode b_Br_findForm 22 = .ok (.getfield 40, 3) := by decide +kernel
theorem d_Br_findForm_25 : decode b_Br_findForm 25 = .ok (.if_icmp .ge 50, 3) := by decide +kernel
theorem d_Br_findForm_28 : decode b_Br_findForm 28 = .ok (.aload_n 0, 1) := by decide +kernel
theorem d_Br_findForm_29 : decode b_Br_findForm 29 = .ok (.getfield 9, 3) := by decide +kernel
theorem d_Br_findForm_32 : decode b_Br_findForm 32 = .ok (.iload_n 1, 1) := by decide +kernel
theorem d_Br_findForm_33 : decode b_Br_findForm 33 = .ok (.iaload, 1) := by decide +kernel
theorem d_Br_findForm_34 : decode b_Br_findForm 34 = .ok (.ifCond .le 18, 3) := by decide +kernel
theorem d_Br_findForm_37 : decode b_Br_findForm 37 = .ok (.aload_n 0, 1) := by decide +kernel
theorem d_Br_findForm_38 : decode b_Br_findForm 38 = .ok (.aload_n 0, 1) := by decide +kernel
theorem d_Br_findForm_39 : decode b_Br_findForm 39 = .ok (.getfield 9, 3) := by decide +kernel
theorem d_Br_findForm_42 : decode b_Br_findForm 42 = .ok (.iload_n 1, 1) := by decide +kernel
theorem d_Br_findForm_43 : decode b_Br_findForm 43 = .ok (.iaload, 1) := by decide +kernel
theorem d_Br_findForm_44 : decode b_Br_findForm 44 = .ok (.iconst 1, 1) := by decide +kernel
theorem d_Br_findForm_45 : decode b_Br_findForm 45 = .ok (.isub, 1) := by decide +kernel
theorem d_Br_findForm_46 : decode b_Br_findForm 46 = .ok (.invokevirtual 72, 3) := by decide +kernel
theorem d_Br_findForm_49 : decode b_Br_findForm 49 = .ok (.goto 16, 3) := by decide +kernel
theorem d_Br_findForm_52 : decode b_Br_findForm 52 = .ok (.aload_n 0, 1) := by decide +kernel
theorem d_Br_findForm_53 : decode b_Br_findForm 53 = .ok (.aload_n 0, 1) := by decide +kernel
theorem d_Br_findForm_54 : decode b_Br_findForm 54 = .ok (.getfield 9, 3) := by decide +kernel
theorem d_Br_findForm_57 : decode b_Br_findForm 57 = .ok (.iload_n 1, 1) := by decide +kernel
theorem d_Br_findForm_58 : decode b_Br_findForm 58 = .ok (.iaload, 1) := by decide +kernel
theorem d_Br_findForm_59 : decode b_Br_findForm 59 = .ok (.ineg, 1) := by decide +kernel
theorem d_Br_findForm_60 : decode b_Br_findForm 60 = .ok (.iconst 1, 1) := by decide +kernel
