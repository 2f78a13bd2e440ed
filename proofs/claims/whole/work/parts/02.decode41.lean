theorem d_Md_feedOne_16 : decode b_Md_feedOne 16 = .ok (.iload_n 2, 1) := by decide +kernel
theorem d_Md_feedOne_17 : decode b_Md_feedOne 17 = .ok (.ishr, 1) := by decide +kernel
theorem d_Md_feedOne_18 : decode b_Md_feedOne 18 = .ok (.i2b, 1) := by decide +kernel
theorem d_Md_feedOne_19 : decode b_Md_feedOne 19 = .ok (.bastore, 1) := by decide +kernel
theorem d_Md_feedOne_20 : decode b_Md_feedOne 20 = .ok (.aload_n 0, 1) := by decide +kernel
theorem d_Md_feedOne_21 : decode b_Md_feedOne 21 = .ok (.dup, 1) := by decide +kernel
theorem d_Md_feedOne_22 : decode b_Md_feedOne 22 = .ok (.getfield 296, 3) := by decide +kernel
theorem d_Md_feedOne_25 : decode b_Md_feedOne 25 = .ok (.iconst 1, 1) := by decide +kernel
theorem d_Md_feedOne_26 : decode b_Md_feedOne 26 = .ok (.iadd, 1) := by decide +kernel
theorem d_Md_feedOne_27 : decode b_Md_feedOne 27 = .ok (.putfield 296, 3) := by decide +kernel
theorem d_Md_feedOne_30 : decode b_Md_feedOne 30 = .ok (.iinc 2 (-8), 3) := by decide +kernel
theorem d_Md_feedOne_33 : decode b_Md_feedOne 33 = .ok (.goto (-30), 3) := by decide +kernel
theorem d_Md_feedOne_36 : decode b_Md_feedOne 36 = .ok (.return_, 1) := by decide +kernel
theorem d_Md_find_0 : decode b_Md_find 0 = .ok (.iconst (-1), 1) := by decide +kernel
theorem d_Md_find_1 : decode b_Md_find 1 = .ok (.istore_n 2, 1) := by decide +kernel
theorem d_Md_find_2 : decode b_Md_find 2 = .ok (.iconst 0, 1) := by decide +kernel
theorem d_Md_find_3 : decode b_Md_find 3 = .ok (.istore_n 3, 1) := by decide +kernel
theorem d_Md_find_4 : decode b_Md_find 4 = .ok (.iload_n 3, 1) := by decide +kernel
theorem d_Md_find_5 : decode b_Md_find 5 = .ok (.aload_n 0, 1) := by decide +kernel
theorem d_Md_find_6 : decode b_Md_find 6 = .ok (.getfield 309, 3) := by decide +kernel
theorem d_Md_find_9 : decode b_Md_find 9 = .ok (.if_icmp .ge 25, 3) := by decide +kernel
theorem d_Md_find_12 : decode b_Md_find 12 = .ok (.aload_n 0, 1) := by decide +kernel
theorem d_Md_find_13 : decode b_Md_find 13 = .ok (.getfield 66, 3) := by decide +kernel
theorem d_Md_find_16 : decode b_Md_find 16 = .ok (.iload_n 3, 1) := by decide +kernel
theorem d_Md_find_17 : decode b_Md_find 17 = .ok (.iaload, 1) := by decide +kernel
theorem d_Md_find_18 : decode b_Md_find 18 = .ok (.iload_n 1, 1) := by decide +kernel
theorem d_Md_find_19 : decode b_Md_find 19 = .ok (.if_icmp .ne 7, 3) := by decide +kernel
theorem d_Md_find_22 : decode b_Md_find 22 = .ok (.iload_n 3, 1) := by decide +kernel
theorem d_Md_find_23 : decode b_Md_find 23 = .ok (.goto 4, 3) := by decide +kernel
theorem d_Md_find_26 : decode b_Md_find 26 = .ok (.iload_n 2, 1) := by decide +kernel
theorem d_Md_find_27 : decode b_Md_find 27 = .ok (.istore_n 2, 1) := by decide +kernel
theorem d_Md_find_28 : decode b_Md_find 28 = .ok (.iinc 3 1, 3) := by decide +kernel
theorem d_Md_find_31 : decode b_Md_find 31 = .ok (.goto (-27), 3) := by decide +kernel
theorem d_Md_find_34 : decode b_Md_find 34 = .ok (.iload_n 2, 1) := by decide +kernel
theorem d_Md_find_35 : decode b_Md_find 35 = .ok (.ireturn, 1) := by decide +kernel
theorem d_Md_findArcs_0 : decode b_Md_findArcs 0 = .ok (.aload_n 0, 1) := by decide +kernel
theorem d_Md_findArcs_1 : decode b_Md_findArcs 1 = .ok (.iconst 0, 1) := by decide +kernel
theorem d_Md_findArcs_2 : decode b_Md_findArcs 2 = .ok (.putfield 459, 3) := by decide +kernel
theorem d_Md_findArcs_5 : decode b_Md_findArcs 5 = .ok (.iconst 0, 1) := by decide +kernel
theorem d_Md_findArcs_6 : decode b_Md_findArcs 6 = .ok (.istore_n 1, 1) := by decide +kernel
theorem d_Md_findArcs_7 : decode b_Md_findArcs 7 = .ok (.iload_n 1, 1) := by decide +kernel
theorem d_Md_findArcs_8 : decode b_Md_findArcs 8 = .ok (.aload_n 0, 1) := by decide +kernel
theorem d_Md_findArcs_9 : decode b_Md_findArcs 9 = .ok (.getfield 309, 3) := by decide +kernel
theorem d_Md_findArcs_12 : decode b_Md_findArcs 12 = .ok (.if_icmp .ge 16, 3) := by decide +kernel
theorem d_Md_findArcs_15 : decode b_Md_findArcs 15 = .ok (.aload_n 0, 1) := by decide +kernel
theorem d_Md_findArcs_16 : decode b_Md_findArcs 16 = .ok (.getfield 108, 3) := by decide +kernel
theorem d_Md_findArcs_19 : decode b_Md_findArcs 19 = .ok (.iload_n 1, 1) := by decide +kernel
theorem d_Md_findArcs_20 : decode b_Md_findArcs 20 = .ok (.iconst (-1), 1) := by decide +kernel
theorem d_Md_findArcs_21 : decode b_Md_findArcs 21 = .ok (.iastore, 1) := by decide +kernel
theorem d_Md_findArcs_22 : decode b_Md_findArcs 22 = .ok (.iinc 1 1, 3) := by decide +kernel
theorem d_Md_findArcs_25 : decode b_Md_findArcs 25 = .ok (.goto (-18), 3) := by decide +kernel
theorem d_Md_findArcs_28 : decode b_Md_findArcs 28 = .ok (.iconst 0, 1) := by decide +kernel
theorem d_Md_findArcs_29 : decode b_Md_findArcs 29 = .ok (.istore_n 1, 1) := by decide +kernel
theorem d_Md_findArcs_30 : decode b_Md_findArcs 30 = .ok (.iload_n 1, 1) := by decide +kernel
theorem d_Md_findArcs_31 : decode b_Md_findArcs 31 = .ok (.aload_n 0, 1) := by decide +kernel
theorem d_Md_findArcs_32 : decode b_Md_findArcs 32 = .ok (.getfield 309, 3) := by decide +kernel
theorem d_Md_findArcs_35 : decode b_Md_findArcs 35 = .ok (.if_icmp .ge 78, 3) := by decide +kernel
theorem d_Md_findArcs_38 : decode b_Md_findArcs 38 = .ok (.aload_n 0, 1) := by decide +kernel
theorem d_Md_findArcs_39 : decode b_Md_findArcs 39 = .ok (.getfield 69, 3) := by decide +kernel
theorem d_Md_findArcs_42 : decode b_Md_findArcs 42 = .ok (.iload_n 1, 1) := by decide +kernel
theorem d_Md_findArcs_43 : decode b_Md_findArcs 43 = .ok (.iaload, 1) := by decide +kernel
theorem d_Md_findArcs_44 : decode b_Md_findArcs 44 = .ok (.invokestatic 370, 3) := by decide +kernel
theorem d_Md_findArcs_47 : decode b_Md_findArcs 47 = .ok (.ifCond .eq 6, 3) := by decide +kernel
theorem d_Md_findArcs_50 : decode b_Md_findArcs 50 = .ok (.goto 57, 3) := by decide +kernel
theorem d_Md_findArcs_53 : decode b_Md_findArcs 53 = .ok (.iload_n 1, 1) := by decide +kernel
theorem d_Md_findArcs_54 : decode b_Md_findArcs 54 = .ok (.istore_n 2, 1) := by decide +kernel
theorem d_Md_findArcs_55 : decode b_Md_findArcs 55 = .ok (.aload_n 0, 1) := by decide +kernel
theorem d_Md_findArcs_56 : decode b_Md_findArcs 56 = .ok (.getfield 72, 3) := by decide +kernel
theorem d_Md_findArcs_59 : decode b_Md_findArcs 59 = .ok (.iload_n 2, 1) := by decide +kernel
theorem d_Md_findArcs_60 : decode b_Md_findArcs 60 = .ok (.iaload, 1) := by decide +kernel
theorem d_Md_findArcs_61 : decode b_Md_findArcs 61 = .ok (.invokestatic 370, 3) := by decide +kernel
theorem d_Md_findArcs_64 : decode b_Md_findArcs 64 = .ok (.ifCond .eq 23, 3) := by decide +kernel
theorem d_Md_findArcs_67 : decode b_Md_findArcs 67 = .ok (.aload_n 0, 1) := by decide +kernel
theorem d_Md_findArcs_68 : decode b_Md_findArcs 68 = .ok (.getfield 108, 3) := by decide +kernel
theorem d_Md_findArcs_71 : decode b_Md_findArcs 71 = .ok (.iload_n 2, 1) := by decide +kernel
theorem d_Md_findArcs_72 : decode b_Md_findArcs 72 = .ok (.aload_n 0, 1) := by decide +kernel
theorem d_Md_findArcs_73 : decode b_Md_findArcs 73 = .ok (.getfield 459, 3) := by decide +kernel
theorem d_Md_findArcs_76 : decode b_Md_findArcs 76 = .ok (.iastore, 1) := by decide +kernel
theorem d_Md_findArcs_77 : decode b_Md_findArcs 77 = .ok (.aload_n 0, 1) := by decide +kernel
theorem d_Md_findArcs_78 : decode b_Md_findArcs 78 = .ok (.getfield 75, 3) := by decide +kernel
theorem d_Md_findArcs_81 : decode b_Md_findArcs 81 = .ok (.iload_n 2, 1) := by decide +kernel
theorem d_Md_findArcs_82 : decode b_Md_findArcs 82 = .ok (.iaload, 1) := by decide +kernel
theorem d_Md_findArcs_83 : decode b_Md_findArcs 83 = .ok (.istore_n 2, 1) := by decide +kernel
theorem d_Md_findArcs_84 : decode b_Md_findArcs 84 = .ok (.goto (-29), 3) := by decide +kernel
theorem d_Md_findArcs_87 : decode b_Md_findArcs 87 = .ok (.aload_n 0, 1) := by decide +kernel
theorem d_Md_findArcs_88 : decode b_Md_findArcs 88 = .ok (.getfield 108, 3) := by decide +kernel
theorem d_Md_findArcs_91 : decode b_Md_findArcs 91 = .ok (.iload_n 2, 1) := by decide +kernel
theorem d_Md_findArcs_92 : decode b_Md_findArcs 92 = .ok (.aload_n 0, 1) := by decide +kernel
theorem d_Md_findArcs_93 : decode b_Md_findArcs 93 = .ok (.getfield 459, 3) := by decide +kernel
theorem d_Md_findArcs_96 : decode b_Md_findArcs 96 = .ok (.iastore, 1) := by decide +kernel
theorem d_Md_findArcs_97 : decode b_Md_findArcs 97 = .ok (.aload_n 0, 1) := by decide +kernel
theorem d_Md_findArcs_98 : decode b_Md_findArcs 98 = .ok (.dup, 1) := by decide +kernel
theorem d_Md_findArcs_99 : decode b_Md_findArcs 99 = .ok (.getfield 459, 3) := by decide +kernel
theorem d_Md_findArcs_102 : decode b_Md_findArcs 102 = .ok (.iconst 1, 1) := by decide +kernel
theorem d_Md_findArcs_103 : decode b_Md_findArcs 103 = .ok (.iadd, 1) := by decide +kernel
theorem d_Md_findArcs_104 : decode b_Md_findArcs 104 = .ok (.putfield 459, 3) := by decide +kernel
theorem d_Md_findArcs_107 : decode b_Md_findArcs 107 = .ok (.iinc 1 1, 3) := by decide +kernel
theorem d_Md_findArcs_110 : decode b_Md_findArcs 110 = .ok (.goto (-80), 3) := by decide +kernel
theorem d_Md_findArcs_113 : decode b_Md_findArcs 113 = .ok (.iconst 0, 1) := by decide +kernel
theorem d_Md_findArcs_114 : decode b_Md_findArcs 114 = .ok (.istore_n 1, 1) := by decide +kernel
theorem d_Md_findArcs_115 : decode b_Md_findArcs 115 = .ok (.iload_n 1, 1) := by decide +kernel
theorem d_Md_findArcs_116 : decode b_Md_findArcs 116 = .ok (.aload_n 0, 1) := by decide +kernel
theorem d_Md_findArcs_117 : decode b_Md_findArcs 117 = .ok (.getfield 309, 3) := by decide +kernel
theorem d_Md_findArcs_120 : decode b_Md_findArcs 120 = .ok (.if_icmp .ge 62, 3) := by decide +kernel
theorem d_Md_findArcs_123 : decode b_Md_findArcs 123 = .ok (.aload_n 0, 1) := by decide +kernel
theorem d_Md_findArcs_124 : decode b_Md_findArcs 124 = .ok (.getfield 108, 3) := by decide +kernel
theorem d_Md_findArcs_127 : decode b_Md_findArcs 127 = .ok (.iload_n 1, 1) := by decide +kernel
theorem d_Md_findArcs_128 : decode b_Md_findArcs 128 = .ok (.iaload, 1) := by decide +kernel
theorem d_Md_findArcs_129 : decode b_Md_findArcs 129 = .ok (.ifCond .lt 6, 3) := by decide +kernel
theorem d_Md_findArcs_132 : decode b_Md_findArcs 132 = .ok (.goto 44, 3) := by decide +kernel
theorem d_Md_findArcs_135 : decode b_Md_findArcs 135 = .ok (.iload_n 1, 1) := by decide +kernel
theorem d_Md_findArcs_136 : decode b_Md_findArcs 136 = .ok (.istore_n 2, 1) := by decide +kernel
theorem d_Md_findArcs_137 : decode b_Md_findArcs 137 = .ok (.aload_n 0, 1) := by decide +kernel
theorem d_Md_findArcs_138 : decode b_Md_findArcs 138 = .ok (.getfield 108, 3) := by decide +kernel
theorem d_Md_findArcs_141 : decode b_Md_findArcs 141 = .ok (.iload_n 2, 1) := by decide +kernel
theorem d_Md_findArcs_142 : decode b_Md_findArcs 142 = .ok (.iaload, 1) := by decide +kernel
theorem d_Md_findArcs_143 : decode b_Md_findArcs 143 = .ok (.ifCond .ge 23, 3) := by decide +kernel
theorem d_Md_findArcs_146 : decode b_Md_findArcs 146 = .ok (.aload_n 0, 1) := by decide +kernel
theorem d_Md_findArcs_147 : decode b_Md_findArcs 147 = .ok (.getfield 108, 3) := by decide +kernel
theorem d_Md_findArcs_150 : decode b_Md_findArcs 150 = .ok (.iload_n 2, 1) := by decide +kernel
theorem d_Md_findArcs_151 : decode b_Md_findArcs 151 = .ok (.aload_n 0, 1) := by decide +kernel
theorem d_Md_findArcs_152 : decode b_Md_findArcs 152 = .ok (.getfield 459, 3) := by decide +kernel
theorem d_Md_findArcs_155 : decode b_Md_findArcs 155 = .ok (.iastore, 1) := by decide +kernel
theorem d_Md_findArcs_156 : decode b_Md_findArcs 156 = .ok (.aload_n 0, 1) := by decide +kernel
theorem d_Md_findArcs_157 : decode b_Md_findArcs 157 = .ok (.getfield 75, 3) := by decide +kernel
theorem d_Md_findArcs_160 : decode b_Md_findArcs 160 = .ok (.iload_n 2, 1) := by decide +kernel
theorem d_Md_findArcs_161 : decode b_Md_findArcs 161 = .ok (.iaload, 1) := by decide +kernel
theorem d_Md_findArcs_162 : decode b_Md_findArcs 162 = .ok (.istore_n 2, 1) := by decide +kernel
theorem d_Md_findArcs_163 : decode b_Md_findArcs 163 = .ok (.goto (-26), 3) := by decide +kernel
theorem d_Md_findArcs_166 : decode b_Md_findArcs 166 = .ok (.aload_n 0, 1) := by decide +kernel
theorem d_Md_findArcs_167 : decode b_Md_findArcs 167 = .ok (.dup, 1) := by decide +kernel
theorem d_Md_findArcs_168 : decode b_Md_findArcs 168 = .ok (.getfield 459, 3) := by decide +kernel
theorem d_Md_findArcs_171 : decode b_Md_findArcs 171 = .ok (.iconst 1, 1) := by decide +kernel
theorem d_Md_findArcs_172 : decode b_Md_findArcs 172 = .ok (.iadd, 1) := by decide +kernel
theorem d_Md_findArcs_173 : decode b_Md_findArcs 173 = .ok (.putfield 459, 3) := by decide +kernel
theorem d_Md_findArcs_176 : decode b_Md_findArcs 176 = .ok (.iinc 1 1, 3) := by decide +kernel
theorem d_Md_findArcs_179 : decode b_Md_findArcs 179 = .ok (.goto (-64), 3) := by decide +kernel
theorem d_Md_findArcs_182 : decode b_Md_findArcs 182 = .ok (.aload_n 0, 1) := by decide +kernel
theorem d_Md_findArcs_183 : decode b_Md_findArcs 183 = .ok (.dup, 1) := by decide +kernel
theorem d_Md_findArcs_184 : decode b_Md_findArcs 184 = .ok (.getfield 459, 3) := by decide +kernel
theorem d_Md_findArcs_187 : decode b_Md_findArcs 187 = .ok (.aload_n 0, 1) := by decide +kernel
theorem d_Md_findArcs_188 : decode b_Md_findArcs 188 = .ok (.getfield 37, 3) := by decide +kernel
theorem d_Md_findArcs_191 : decode b_Md_findArcs 191 = .ok (.getfield 354, 3) := by decide +kernel
theorem d_Md_findArcs_194 : decode b_Md_findArcs 194 = .ok (.iadd, 1) := by decide +kernel
theorem d_Md_findArcs_195 : decode b_Md_findArcs 195 = .ok (.putfield 459, 3) := by decide +kernel
theorem d_Md_findArcs_198 : decode b_Md_findArcs 198 = .ok (.return_, 1) := by decide +kernel
theorem d_Md_findEdges_0 : decode b_Md_findEdges 0 = .ok (.aload_n 0, 1) := by decide +kernel
theorem d_Md_findEdges_1 : decode b_Md_findEdges 1 = .ok (.iconst 0, 1) := by decide +kernel
theorem d_Md_findEdges_2 : decode b_Md_findEdges 2 = .ok (.putfield 309, 3) := by decide +kernel
theorem d_Md_findEdges_5 : decode b_Md_findEdges 5 = .ok (.iconst 0, 1) := by decide +kernel
theorem d_Md_findEdges_6 : decode b_Md_findEdges 6 = .ok (.istore_n 1, 1) := by decide +kernel
theorem d_Md_findEdges_7 : decode b_Md_findEdges 7 = .ok (.iload_n 1, 1) := by decide +kernel
theorem d_Md_findEdges_8 : decode b_Md_findEdges 8 = .ok (.iconst 4, 1) := by decide +kernel
theorem d_Md_findEdges_9 : decode b_Md_findEdges 9 = .ok (.aload_n 0, 1) := by decide +kernel
theorem d_Md_findEdges_10 : decode b_Md_findEdges 10 = .ok (.getfield 37, 3) := by decide +kernel
theorem d_Md_findEdges_13 : decode b_Md_findEdges 13 = .ok (.getfield 312, 3) := by decide +kernel
theorem d_Md_findEdges_16 : decode b_Md_findEdges 16 = .ok (.imul, 1) := by decide +kernel
theorem d_Md_findEdges_17 : decode b_Md_findEdges 17 = .ok (.if_icmp .ge 115, 3) := by decide +kernel
theorem d_Md_findEdges_20 : decode b_Md_findEdges 20 = .ok (.aload_n 0, 1) := by decide +kernel
theorem d_Md_findEdges_21 : decode b_Md_findEdges 21 = .ok (.iload_n 1, 1) := by decide +kernel
theorem d_Md_findEdges_22 : decode b_Md_findEdges 22 = .ok (.invokevirtual 315, 3) := by decide +kernel
theorem d_Md_findEdges_25 : decode b_Md_findEdges 25 = .ok (.ifCond .eq 6, 3) := by decide +kernel
theorem d_Md_findEdges_28 : decode b_Md_findEdges 28 = .ok (.goto 98, 3) := by decide +kernel
theorem d_Md_findEdges_31 : decode b_Md_findEdges 31 = .ok (.aload_n 0, 1) := by decide +kernel
theorem d_Md_findEdges_32 : decode b_Md_findEdges 32 = .ok (.getfield 309, 3) := by decide +kernel
theorem d_Md_findEdges_35 : decode b_Md_findEdges 35 = .ok (.istore_n 2, 1) := by decide +kernel
theorem d_Md_findEdges_36 : decode b_Md_findEdges 36 = .ok (.iload_n 2, 1) := by decide +kernel
theorem d_Md_findEdges_37 : decode b_Md_findEdges 37 = .ok (.ifCond .le 57, 3) := by decide +kernel
theorem d_Md_findEdges_40 : decode b_Md_findEdges 40 = .ok (.aload_n 0, 1) := by decide +kernel
theorem d_Md_findEdges_41 : decode b_Md_findEdges 41 = .ok (.getfield 66, 3) := by decide +kernel
theorem d_Md_findEdges_44 : decode b_Md_findEdges 44 = .ok (.iload_n 2, 1) := by decide +kernel
theorem d_Md_findEdges_45 : decode b_Md_findEdges 45 = .ok (.iconst 1, 1) := by decide +kernel
theorem d_Md_findEdges_46 : decode b_Md_findEdges 46 = .ok (.isub, 1) := by decide +kernel
theorem d_Md_findEdges_47 : decode b_Md_findEdges 47 = .ok (.iaload, 1) := by decide +kernel
theorem d_Md_findEdges_48 : decode b_Md_findEdges 48 = .ok (.aload_n 0, 1) := by decide +kernel
theorem d_Md_findEdges_49 : decode b_Md_findEdges 49 = .ok (.getfield 37, 3) := by decide +kernel
theorem d_Md_findEdges_52 : decode b_Md_findEdges 52 = .ok (.getfield 318, 3) := by decide +kernel
theorem d_Md_findEdges_55 : decode b_Md_findEdges 55 = .ok (.iload_n 1, 1) := by decide +kernel
theorem d_Md_findEdges_56 : decode b_Md_findEdges 56 = .ok (.iaload, 1) := by decide +kernel
theorem d_Md_findEdges_57 : decode b_Md_findEdges 57 = .ok (.if_icmp .le 37, 3) := by decide +kernel
theorem d_Md_findEdges_60 : decode b_Md_findEdges 60 = .ok (.aload_n 0, 1) := by decide +kernel
theorem d_Md_findEdges_61 : decode b_Md_findEdges 61 = .ok (.getfield 66, 3) := by decide +kernel
theorem d_Md_findEdges_64 : decode b_Md_findEdges 64 = .ok (.iload_n 2, 1) := by decide +kernel
theorem d_Md_findEdges_65 : decode b_Md_findEdges 65 = .ok (.aload_n 0, 1) := by decide +kernel
theorem d_Md_findEdges_66 : decode b_Md_findEdges 66 = .ok (.getfield 66, 3) := by decide +kernel
theorem d_Md_findEdges_69 : decode b_Md_findEdges 69 = .ok (.iload_n 2, 1) := by decide +kernel
theorem d_Md_findEdges_70 : decode b_Md_findEdges 70 = .ok (.iconst 1, 1) := by decide +kernel
theorem d_Md_findEdges_71 : decode b_Md_findEdges 71 = .ok (.isub, 1) := by decide +kernel
theorem d_Md_findEdges_72 : decode b_Md_findEdges 72 = .ok (.iaload, 1) := by decide +kernel
theorem d_Md_findEdges_73 : decode b_Md_findEdges 73 = .ok (.iastore, 1) := by decide +kernel
theorem d_Md_findEdges_74 : decode b_Md_findEdges 74 = .ok (.aload_n 0, 1) := by decide +kernel
theorem d_Md_findEdges_75 : decode b_Md_findEdges 75 = .ok (.getfield 69, 3) := by decide +kernel
theorem d_Md_findEdges_78 : decode b_Md_findEdges 78 = .ok (.iload_n 2, 1) := by decide +kernel
theorem d_Md_findEdges_79 : decode b_Md_findEdges 79 = .ok (.aload_n 0, 1) := by decide +kernel
theorem d_Md_findEdges_80 : decode b_Md_findEdges 80 = .ok (.getfield 69, 3) := by decide +kernel
theorem d_Md_findEdges_83 : decode b_Md_findEdges 83 = .ok (.iload_n 2, 1) := by decide +kernel
theorem d_Md_findEdges_84 : decode b_Md_findEdges 84 = .ok (.iconst 1, 1) := by decide +kernel
theorem d_Md_findEdges_85 : decode b_Md_findEdges 85 = .ok (.isub, 1) := by decide +kernel
theorem d_Md_findEdges_86 : decode b_Md_findEdges 86 = .ok (.iaload, 1) := by decide +kernel
theorem d_Md_findEdges_87 : decode b_Md_findEdges 87 = .ok (.iastore, 1) := by decide +kernel
