theorem d_Br_settle_111 : decode b_Br_settle 111 = .ok (.iload_n 1, 1) := by decide +kernel
theorem d_Br_settle_112 : decode b_Br_settle 112 = .ok (.isub, 1) := by decide +kernel
theorem d_Br_settle_113 : decode b_Br_settle 113 = .ok (.putfield 66, 3) := by decide +kernel
theorem d_Br_settle_116 : decode b_Br_settle 116 = .ok (.aload_n 0, 1) := by decide +kernel
theorem d_Br_settle_117 : decode b_Br_settle 117 = .ok (.getfield 15, 3) := by decide +kernel
theorem d_Br_settle_120 : decode b_Br_settle 120 = .ok (.iload_n 1, 1) := by decide +kernel
theorem d_Br_settle_121 : decode b_Br_settle 121 = .ok (.bipush 8, 2) := by decide +kernel
theorem d_Br_settle_123 : decode b_Br_settle 123 = .ok (.imul, 1) := by decide +kernel
theorem d_Br_settle_124 : decode b_Br_settle 124 = .ok (.aload_n 0, 1) := by decide +kernel
theorem d_Br_settle_125 : decode b_Br_settle 125 = .ok (.getfield 15, 3) := by decide +kernel
theorem d_Br_settle_128 : decode b_Br_settle 128 = .ok (.iconst 0, 1) := by decide +kernel
theorem d_Br_settle_129 : decode b_Br_settle 129 = .ok (.aload_n 0, 1) := by decide +kernel
theorem d_Br_settle_130 : decode b_Br_settle 130 = .ok (.getfield 66, 3) := by decide +kernel
theorem d_Br_settle_133 : decode b_Br_settle 133 = .ok (.bipush 8, 2) := by decide +kernel
theorem d_Br_settle_135 : decode b_Br_settle 135 = .ok (.imul, 1) := by decide +kernel
theorem d_Br_settle_136 : decode b_Br_settle 136 = .ok (.invokestatic 95, 3) := by decide +kernel
theorem d_Br_settle_139 : decode b_Br_settle 139 = .ok (.return_, 1) := by decide +kernel
theorem d_Br_settle_71 : decode b_Br_settle 71 = .ok (.iload_n 1, 1) := by decide +kernel
theorem d_Br_settle_72 : decode b_Br_settle 72 = .ok (.aload_n 0, 1) := by decide +kernel
theorem d_Br_settle_73 : decode b_Br_settle 73 = .ok (.getfield 66, 3) := by decide +kernel
theorem d_Br_settle_76 : decode b_Br_settle 76 = .ok (.if_icmp .ge 20, 3) := by decide +kernel
theorem d_Br_settle_79 : decode b_Br_settle 79 = .ok (.aload_n 0, 1) := by decide +kernel
theorem d_Br_settle_80 : decode b_Br_settle 80 = .ok (.iload_n 1, 1) := by decide +kernel
theorem d_Br_settle_81 : decode b_Br_settle 81 = .ok (.bipush 8, 2) := by decide +kernel
theorem d_Br_settle_83 : decode b_Br_settle 83 = .ok (.imul, 1) := by decide +kernel
theorem d_Br_settle_84 : decode b_Br_settle 84 = .ok (.invokevirtual 92, 3) := by decide +kernel
theorem d_Br_settle_87 : decode b_Br_settle 87 = .ok (.ifCond .eq 9, 3) := by decide +kernel
theorem d_Br_settle_90 : decode b_Br_settle 90 = .ok (.iinc 1 1, 3) := by decide +kernel
theorem d_Br_settle_93 : decode b_Br_settle 93 = .ok (.goto (-22), 3) := by decide +kernel
theorem d_Br_settle_69 : decode b_Br_settle 69 = .ok (.iconst 0, 1) := by decide +kernel
theorem d_Br_settle_70 : decode b_Br_settle 70 = .ok (.istore_n 1, 1) := by decide +kernel
theorem d_Br_settle_38 : decode b_Br_settle 38 = .ok (.iload_n 1, 1) := by decide +kernel
theorem d_Br_settle_39 : decode b_Br_settle 39 = .ok (.ifCond .lt 30, 3) := by decide +kernel
theorem d_Br_settle_42 : decode b_Br_settle 42 = .ok (.aload_n 0, 1) := by decide +kernel
theorem d_Br_settle_43 : decode b_Br_settle 43 = .ok (.iload_n 1, 1) := by decide +kernel
theorem d_Br_settle_44 : decode b_Br_settle 44 = .ok (.bipush 8, 2) := by decide +kernel
theorem d_Br_settle_46 : decode b_Br_settle 46 = .ok (.imul, 1) := by decide +kernel
theorem d_Br_settle_47 : decode b_Br_settle 47 = .ok (.invokevirtual 89, 3) := by decide +kernel
theorem d_Br_settle_50 : decode b_Br_settle 50 = .ok (.ifCond .eq 19, 3) := by decide +kernel
theorem d_Br_settle_53 : decode b_Br_settle 53 = .ok (.aload_n 0, 1) := by decide +kernel
theorem d_Br_settle_54 : decode b_Br_settle 54 = .ok (.dup, 1) := by decide +kernel
theorem d_Br_settle_55 : decode b_Br_settle 55 = .ok (.getfield 66, 3) := by decide +kernel
theorem d_Br_settle_58 : decode b_Br_settle 58 = .ok (.iconst 1, 1) := by decide +kernel
theorem d_Br_settle_59 : decode b_Br_settle 59 = .ok (.isub, 1) := by decide +kernel
theorem d_Br_settle_60 : decode b_Br_settle 60 = .ok (.putfield 66, 3) := by decide +kernel
theorem d_Br_settle_63 : decode b_Br_settle 63 = .ok (.iinc 1 (-1), 3) := by decide +kernel
theorem d_Br_settle_66 : decode b_Br_settle 66 = .ok (.goto (-28), 3) := by decide +kernel
theorem d_Br_settle_31 : decode b_Br_settle 31 = .ok (.aload_n 0, 1) := by decide +kernel
theorem d_Br_settle_32 : decode b_Br_settle 32 = .ok (.getfield 66, 3) := by decide +kernel
theorem d_Br_settle_35 : decode b_Br_settle 35 = .ok (.iconst 1, 1) := by decide +kernel
theorem d_Br_settle_36 : decode b_Br_settle 36 = .ok (.isub, 1) := by decide +kernel
theorem d_Br_settle_37 : decode b_Br_settle 37 = .ok (.istore_n 1, 1) := by decide +kernel
theorem d_Br_settle_7 : decode b_Br_settle 7 = .ok (.iload_n 1, 1) := by decide +kernel
theorem d_Br_settle_8 : decode b_Br_settle 8 = .ok (.ifCond .lt 23, 3) := by decide +kernel
theorem d_Br_settle_11 : decode b_Br_settle 11 = .ok (.aload_n 0, 1) := by decide +kernel
theorem d_Br_settle_12 : decode b_Br_settle 12 = .ok (.iload_n 1, 1) := by decide +kernel
theorem d_Br_settle_13 : decode b_Br_settle 13 = .ok (.bipush 8, 2) := by decide +kernel
theorem d_Br_settle_15 : decode b_Br_settle 15 = .ok (.imul, 1) := by decide +kernel
theorem d_Br_settle_16 : decode b_Br_settle 16 = .ok (.invokevirtual 85, 3) := by decide +kernel
theorem d_Br_settle_19 : decode b_Br_settle 19 = .ok (.ifCond .ne 6, 3) := by decide +kernel
theorem d_Br_settle_25 : decode b_Br_settle 25 = .ok (.iinc 1 (-1), 3) := by decide +kernel
theorem d_Br_settle_28 : decode b_Br_settle 28 = .ok (.goto (-21), 3) := by decide +kernel
theorem d_Br_settle_22 : decode b_Br_settle 22 = .ok (.goto 9, 3) := by decide +kernel
theorem d_Br_settle_0 : decode b_Br_settle 0 = .ok (.aload_n 0, 1) := by decide +kernel
theorem d_Br_settle_1 : decode b_Br_settle 1 = .ok (.getfield 66, 3) := by decide +kernel
theorem d_Br_settle_4 : decode b_Br_settle 4 = .ok (.iconst 2, 1) := by decide +kernel
theorem d_Br_settle_5 : decode b_Br_settle 5 = .ok (.isub, 1) := by decide +kernel
theorem d_Br_settle_6 : decode b_Br_settle 6 = .ok (.istore_n 1, 1) := by decide +kernel
theorem d_Md_putSign_29 : decode b_Md_putSign 29 = .ok (.invokevirtual 198, 3) := by decide +kernel
theorem d_Md_putSign_32 : decode b_Md_putSign 32 = .ok (.aload_n 0, 1) := by decide +kernel
theorem d_Md_putSign_33 : decode b_Md_putSign 33 = .ok (.invokevirtual 179, 3) := by decide +kernel
theorem d_Md_putSign_36 : decode b_Md_putSign 36 = .ok (.return_, 1) := by decide +kernel
theorem d_Md_putSign_0 : decode b_Md_putSign 0 = .ok (.aload_n 0, 1) := by decide +kernel
theorem d_Md_putSign_1 : decode b_Md_putSign 1 = .ok (.invokevirtual 192, 3) := by decide +kernel
theorem d_Md_putSign_4 : decode b_Md_putSign 4 = .ok (.ifCond .ne 8, 3) := by decide +kernel
theorem d_Md_putSign_12 : decode b_Md_putSign 12 = .ok (.aload_n 0, 1) := by decide +kernel
theorem d_Md_putSign_13 : decode b_Md_putSign 13 = .ok (.aload_n 0, 1) := by decide +kernel
theorem d_Md_putSign_14 : decode b_Md_putSign 14 = .ok (.bipush 43, 2) := by decide +kernel
theorem d_Md_putSign_16 : decode b_Md_putSign 16 = .ok (.invokevirtual 176, 3) := by decide +kernel
theorem d_Md_putSign_19 : decode b_Md_putSign 19 = .ok (.ifCond .eq 7, 3) := by decide +kernel
theorem d_Md_putSign_26 : decode b_Md_putSign 26 = .ok (.ldc2_w 196, 3) := by decide +kernel
theorem d_Md_putSign_22 : decode b_Md_putSign 22 = .ok (.lconst 1, 1) := by decide +kernel
theorem d_Md_putSign_23 : decode b_Md_putSign 23 = .ok (.goto 6, 3) := by decide +kernel
theorem d_Md_putSign_7 : decode b_Md_putSign 7 = .ok (.aload_n 0, 1) := by decide +kernel
theorem d_Md_putSign_8 : decode b_Md_putSign 8 = .ok (.invokevirtual 182, 3) := by decide +kernel
theorem d_Md_putSign_11 : decode b_Md_putSign 11 = .ok (.return_, 1) := by decide +kernel
theorem d_Md_readBraid_61 : decode b_Md_readBraid 61 = .ok (.iload_n 1, 1) := by decide +kernel
theorem d_Md_readBraid_62 : decode b_Md_readBraid 62 = .ok (.bipush 32, 2) := by decide +kernel
theorem d_Md_readBraid_64 : decode b_Md_readBraid 64 = .ok (.if_icmp .ne 13, 3) := by decide +kernel
theorem d_Md_readBraid_77 : decode b_Md_readBraid 77 = .ok (.aload_n 0, 1) := by decide +kernel
theorem d_Md_readBraid_78 : decode b_Md_readBraid 78 = .ok (.aload_n 0, 1) := by decide +kernel
theorem d_Md_readBraid_79 : decode b_Md_readBraid 79 = .ok (.invokevirtual 258, 3) := by decide +kernel
theorem d_Md_readBraid_82 : decode b_Md_readBraid 82 = .ok (.invokevirtual 198, 3) := by decide +kernel
theorem d_Md_readBraid_85 : decode b_Md_readBraid 85 = .ok (.iinc 1 1, 3) := by decide +kernel
theorem d_Md_readBraid_88 : decode b_Md_readBraid 88 = .ok (.goto (-77), 3) := by decide +kernel
theorem d_Md_readBraid_67 : decode b_Md_readBraid 67 = .ok (.aload_n 0, 1) := by decide +kernel
theorem d_Md_readBraid_68 : decode b_Md_readBraid 68 = .ok (.iconst 5, 1) := by decide +kernel
theorem d_Md_readBraid_69 : decode b_Md_readBraid 69 = .ok (.aload_n 0, 1) := by decide +kernel
theorem d_Md_readBraid_70 : decode b_Md_readBraid 70 = .ok (.getfield 142, 3) := by decide +kernel
theorem d_Md_readBraid_73 : decode b_Md_readBraid 73 = .ok (.invokevirtual 138, 3) := by decide +kernel
theorem d_Md_readBraid_76 : decode b_Md_readBraid 76 = .ok (.return_, 1) := by decide +kernel
theorem d_Md_readBraid_35 : decode b_Md_readBraid 35 = .ok (.aload_n 0, 1) := by decide +kernel
theorem d_Md_readBraid_36 : decode b_Md_readBraid 36 = .ok (.getfield 129, 3) := by decide +kernel
theorem d_Md_readBraid_39 : decode b_Md_readBraid 39 = .ok (.iconst 2, 1) := by decide +kernel
theorem d_Md_readBraid_40 : decode b_Md_readBraid 40 = .ok (.if_icmp .ne 21, 3) := by decide +kernel
theorem d_Md_readBraid_43 : decode b_Md_readBraid 43 = .ok (.aload_n 0, 1) := by decide +kernel
theorem d_Md_readBraid_44 : decode b_Md_readBraid 44 = .ok (.iconst 0, 1) := by decide +kernel
theorem d_Md_readBraid_45 : decode b_Md_readBraid 45 = .ok (.invokevirtual 172, 3) := by decide +kernel
theorem d_Md_readBraid_48 : decode b_Md_readBraid 48 = .ok (.ifCond .eq 13, 3) := by decide +kernel
theorem d_Md_readBraid_51 : decode b_Md_readBraid 51 = .ok (.aload_n 0, 1) := by decide +kernel
theorem d_Md_readBraid_52 : decode b_Md_readBraid 52 = .ok (.iconst 2, 1) := by decide +kernel
theorem d_Md_readBraid_53 : decode b_Md_readBraid 53 = .ok (.aload_n 0, 1) := by decide +kernel
theorem d_Md_readBraid_54 : decode b_Md_readBraid 54 = .ok (.getfield 142, 3) := by decide +kernel
theorem d_Md_readBraid_57 : decode b_Md_readBraid 57 = .ok (.invokevirtual 138, 3) := by decide +kernel
theorem d_Md_readBraid_60 : decode b_Md_readBraid 60 = .ok (.return_, 1) := by decide +kernel
theorem d_Md_readBraid_11 : decode b_Md_readBraid 11 = .ok (.aload_n 0, 1) := by decide +kernel
theorem d_Md_readBraid_12 : decode b_Md_readBraid 12 = .ok (.getfield 126, 3) := by decide +kernel
theorem d_Md_readBraid_15 : decode b_Md_readBraid 15 = .ok (.ifCond .ne 76, 3) := by decide +kernel
theorem d_Md_readBraid_91 : decode b_Md_readBraid 91 = .ok (.return_, 1) := by decide +kernel
theorem d_Md_readBraid_18 : decode b_Md_readBraid 18 = .ok (.aload_n 0, 1) := by decide +kernel
theorem d_Md_readBraid_19 : decode b_Md_readBraid 19 = .ok (.getfield 129, 3) := by decide +kernel
theorem d_Md_readBraid_22 : decode b_Md_readBraid 22 = .ok (.iconst 2, 1) := by decide +kernel
theorem d_Md_readBraid_23 : decode b_Md_readBraid 23 = .ok (.if_icmp .eq 12, 3) := by decide +kernel
theorem d_Md_readBraid_26 : decode b_Md_readBraid 26 = .ok (.aload_n 0, 1) := by decide +kernel
theorem d_Md_readBraid_27 : decode b_Md_readBraid 27 = .ok (.bipush 45, 2) := by decide +kernel
theorem d_Md_readBraid_29 : decode b_Md_readBraid 29 = .ok (.invokevirtual 176, 3) := by decide +kernel
theorem d_Md_readBraid_32 : decode b_Md_readBraid 32 = .ok (.ifCond .eq 59, 3) := by decide +kernel
theorem d_Md_readBraid_0 : decode b_Md_readBraid 0 = .ok (.aload_n 0, 1) := by decide +kernel
theorem d_Md_readBraid_1 : decode b_Md_readBraid 1 = .ok (.aload_n 0, 1) := by decide +kernel
theorem d_Md_readBraid_2 : decode b_Md_readBraid 2 = .ok (.iconst 0, 1) := by decide +kernel
theorem d_Md_readBraid_3 : decode b_Md_readBraid 3 = .ok (.invokevirtual 185, 3) := by decide +kernel
theorem d_Md_readBraid_6 : decode b_Md_readBraid 6 = .ok (.invokevirtual 198, 3) := by decide +kernel
theorem d_Md_readBraid_9 : decode b_Md_readBraid 9 = .ok (.iconst 0, 1) := by decide +kernel
theorem d_Md_readBraid_10 : decode b_Md_readBraid 10 = .ok (.istore_n 1, 1) := by decide +kernel
theorem d_Md_norm_189 : decode b_Md_norm 189 = .ok (.aload_n 0, 1) := by decide +kernel
theorem d_Md_norm_190 : decode b_Md_norm 190 = .ok (.aload_n 0, 1) := by decide +kernel
theorem d_Md_norm_191 : decode b_Md_norm 191 = .ok (.getfield 409, 3) := by decide +kernel
theorem d_Md_norm_194 : decode b_Md_norm 194 = .ok (.iconst 1, 1) := by decide +kernel
theorem d_Md_norm_195 : decode b_Md_norm 195 = .ok (.isub, 1) := by decide +kernel
theorem d_Md_norm_196 : decode b_Md_norm 196 = .ok (.invokestatic 434, 3) := by decide +kernel
theorem d_Md_norm_199 : decode b_Md_norm 199 = .ok (.ifCond .eq 16, 3) := by decide +kernel
theorem d_Md_norm_202 : decode b_Md_norm 202 = .ok (.aload_n 0, 1) := by decide +kernel
theorem d_Md_norm_203 : decode b_Md_norm 203 = .ok (.dup, 1) := by decide +kernel
theorem d_Md_norm_204 : decode b_Md_norm 204 = .ok (.getfield 409, 3) := by decide +kernel
theorem d_Md_norm_207 : decode b_Md_norm 207 = .ok (.iconst 1, 1) := by decide +kernel
theorem d_Md_norm_208 : decode b_Md_norm 208 = .ok (.isub, 1) := by decide +kernel
theorem d_Md_norm_209 : decode b_Md_norm 209 = .ok (.putfield 409, 3) := by decide +kernel
theorem d_Md_norm_212 : decode b_Md_norm 212 = .ok (.goto (-30), 3) := by decide +kernel
theorem d_Md_norm_147 : decode b_Md_norm 147 = .ok (.iload_n 2, 1) := by decide +kernel
theorem d_Md_norm_148 : decode b_Md_norm 148 = .ok (.bipush 9, 2) := by decide +kernel
theorem d_Md_norm_150 : decode b_Md_norm 150 = .ok (.aload_n 0, 1) := by decide +kernel
theorem d_Md_norm_151 : decode b_Md_norm 151 = .ok (.getfield 409, 3) := by decide +kernel
theorem d_Md_norm_154 : decode b_Md_norm 154 = .ok (.imul, 1) := by decide +kernel
theorem d_Md_norm_155 : decode b_Md_norm 155 = .ok (.if_icmp .ge 24, 3) := by decide +kernel
theorem d_Md_norm_179 : decode b_Md_norm 179 = .ok (.goto (-69), 3) := by decide +kernel
theorem d_Md_norm_158 : decode b_Md_norm 158 = .ok (.aload_n 0, 1) := by decide +kernel
theorem d_Md_norm_159 : decode b_Md_norm 159 = .ok (.getfield 403, 3) := by decide +kernel
theorem d_Md_norm_162 : decode b_Md_norm 162 = .ok (.iload_n 2, 1) := by decide +kernel
theorem d_Md_norm_163 : decode b_Md_norm 163 = .ok (.aload_n 0, 1) := by decide +kernel
theorem d_Md_norm_164 : decode b_Md_norm 164 = .ok (.getfield 403, 3) := by decide +kernel
theorem d_Md_norm_167 : decode b_Md_norm 167 = .ok (.iload_n 2, 1) := by decide +kernel
theorem d_Md_norm_168 : decode b_Md_norm 168 = .ok (.bipush 9, 2) := by decide +kernel
theorem d_Md_norm_170 : decode b_Md_norm 170 = .ok (.iadd, 1) := by decide +kernel
theorem d_Md_norm_171 : decode b_Md_norm 171 = .ok (.iaload, 1) := by decide +kernel
theorem d_Md_norm_172 : decode b_Md_norm 172 = .ok (.iastore, 1) := by decide +kernel
theorem d_Md_norm_173 : decode b_Md_norm 173 = .ok (.iinc 2 1, 3) := by decide +kernel
theorem d_Md_norm_176 : decode b_Md_norm 176 = .ok (.goto (-29), 3) := by decide +kernel
theorem d_Md_norm_117 : decode b_Md_norm 117 = .ok (.aload_n 0, 1) := by decide +kernel
theorem d_Md_norm_118 : decode b_Md_norm 118 = .ok (.iconst 0, 1) := by decide +kernel
theorem d_Md_norm_119 : decode b_Md_norm 119 = .ok (.invokestatic 430, 3) := by decide +kernel
theorem d_Md_norm_122 : decode b_Md_norm 122 = .ok (.ifCond .eq 60, 3) := by decide +kernel
theorem d_Md_norm_125 : decode b_Md_norm 125 = .ok (.aload_n 0, 1) := by decide +kernel
theorem d_Md_norm_126 : decode b_Md_norm 126 = .ok (.dup, 1) := by decide +kernel
theorem d_Md_norm_127 : decode b_Md_norm 127 = .ok (.getfield 406, 3) := by decide +kernel
theorem d_Md_norm_130 : decode b_Md_norm 130 = .ok (.iconst 1, 1) := by decide +kernel
theorem d_Md_norm_131 : decode b_Md_norm 131 = .ok (.iadd, 1) := by decide +kernel
theorem d_Md_norm_132 : decode b_Md_norm 132 = .ok (.putfield 406, 3) := by decide +kernel
theorem d_Md_norm_135 : decode b_Md_norm 135 = .ok (.aload_n 0, 1) := by decide +kernel
theorem d_Md_norm_136 : decode b_Md_norm 136 = .ok (.dup, 1) := by decide +kernel
theorem d_Md_norm_137 : decode b_Md_norm 137 = .ok (.getfield 409, 3) := by decide +kernel
theorem d_Md_norm_140 : decode b_Md_norm 140 = .ok (.iconst 1, 1) := by decide +kernel
theorem d_Md_norm_141 : decode b_Md_norm 141 = .ok (.isub, 1) := by decide +kernel
theorem d_Md_norm_142 : decode b_Md_norm 142 = .ok (.putfield 409, 3) := by decide +kernel
theorem d_Md_norm_145 : decode b_Md_norm 145 = .ok (.iconst 0, 1) := by decide +kernel
theorem d_Md_norm_146 : decode b_Md_norm 146 = .ok (.istore_n 2, 1) := by decide +kernel
theorem d_Md_norm_95 : decode b_Md_norm 95 = .ok (.iinc 3 1, 3) := by decide +kernel
theorem d_Md_norm_98 : decode b_Md_norm 98 = .ok (.goto (-42), 3) := by decide +kernel
theorem d_Md_norm_56 : decode b_Md_norm 56 = .ok (.iload_n 3, 1) := by decide +kernel
theorem d_Md_norm_57 : decode b_Md_norm 57 = .ok (.aload_n 0, 1) := by decide +kernel
theorem d_Md_norm_58 : decode b_Md_norm 58 = .ok (.getfield 395, 3) := by decide +kernel
theorem d_Md_norm_61 : decode b_Md_norm 61 = .ok (.if_icmp .ge 40, 3) := by decide +kernel
theorem d_Md_norm_101 : decode b_Md_norm 101 = .ok (.iinc 2 1, 3) := by decide +kernel
theorem d_Md_norm_104 : decode b_Md_norm 104 = .ok (.goto (-58), 3) := by decide +kernel
theorem d_Md_norm_64 : decode b_Md_norm 64 = .ok (.aload_n 0, 1) := by decide +kernel
theorem d_Md_norm_65 : decode b_Md_norm 65 = .ok (.iload_n 2, 1) := by decide +kernel
theorem d_Md_norm_66 : decode b_Md_norm 66 = .ok (.iload_n 3, 1) := by decide +kernel
theorem d_Md_norm_67 : decode b_Md_norm 67 = .ok (.invokestatic 419, 3) := by decide +kernel
theorem d_Md_norm_70 : decode b_Md_norm 70 = .ok (.ifCond .eq 25, 3) := by decide +kernel
theorem d_Md_norm_73 : decode b_Md_norm 73 = .ok (.aload_n 0, 1) := by decide +kernel
theorem d_Md_norm_74 : decode b_Md_norm 74 = .ok (.iload_n 2, 1) := by decide +kernel
