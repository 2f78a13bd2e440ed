theorem d_Di_setCode_5 : decode b_Di_setCode 5 = .ok (.invokevirtual 71, 3) := by decide +kernel
theorem d_Di_setCode_8 : decode b_Di_setCode 8 = .ok (.iconst 5, 1) := by decide +kernel
theorem d_Di_setCode_9 : decode b_Di_setCode 9 = .ok (.idiv, 1) := by decide +kernel
theorem d_Di_setCode_10 : decode b_Di_setCode 10 = .ok (.istore_n 2, 1) := by decide +kernel
theorem d_Di_setCode_11 : decode b_Di_setCode 11 = .ok (.iconst 1, 1) := by decide +kernel
theorem d_Di_setCode_12 : decode b_Di_setCode 12 = .ok (.istore_n 3, 1) := by decide +kernel
theorem d_Di_setCode_13 : decode b_Di_setCode 13 = .ok (.iconst 0, 1) := by decide +kernel
theorem d_Di_setCode_14 : decode b_Di_setCode 14 = .ok (.istore 4, 2) := by decide +kernel
theorem d_Sh_edgesHaveDirections_109 : decode b_Sh_edgesHaveDirections 109 = .ok (.iastore, 1) := by decide +kernel
theorem d_Sh_edgesHaveDirections_110 : decode b_Sh_edgesHaveDirections 110 = .ok (.aload_n 0, 1) := by decide +kernel
theorem d_Sh_edgesHaveDirections_111 : decode b_Sh_edgesHaveDirections 111 = .ok (.getfield 24, 3) := by decide +kernel
theorem d_Sh_edgesHaveDirections_114 : decode b_Sh_edgesHaveDirections 114 = .ok (.iload_n 3, 1) := by decide +kernel
theorem d_Sh_edgesHaveDirections_115 : decode b_Sh_edgesHaveDirections 115 = .ok (.iload_n 2, 1) := by decide +kernel
theorem d_Sh_edgesHaveDirections_116 : decode b_Sh_edgesHaveDirections 116 = .ok (.iastore, 1) := by decide +kernel
theorem d_Sh_edgesHaveDirections_117 : decode b_Sh_edgesHaveDirections 117 = .ok (.aload_n 0, 1) := by decide +kernel
theorem d_Sh_edgesHaveDirections_118 : decode b_Sh_edgesHaveDirections 118 = .ok (.getfield 24, 3) := by decide +kernel
theorem d_Sh_edgesHaveDirections_121 : decode b_Sh_edgesHaveDirections 121 = .ok (.iload 4, 2) := by decide +kernel
theorem d_Sh_edgesHaveDirections_123 : decode b_Sh_edgesHaveDirections 123 = .ok (.iload_n 2, 1) := by decide +kernel
theorem d_Sh_edgesHaveDirections_124 : decode b_Sh_edgesHaveDirections 124 = .ok (.iastore, 1) := by decide +kernel
theorem d_Sh_edgesHaveDirections_125 : decode b_Sh_edgesHaveDirections 125 = .ok (.iinc 2 1, 3) := by decide +kernel
theorem d_Sh_edgesHaveDirections_128 : decode b_Sh_edgesHaveDirections 128 = .ok (.goto (-126), 3) := by decide +kernel
theorem d_Sh_edgesHaveDirections_89 : decode b_Sh_edgesHaveDirections 89 = .ok (.iastore, 1) := by decide +kernel
theorem d_Sh_edgesHaveDirections_90 : decode b_Sh_edgesHaveDirections 90 = .ok (.aload_n 0, 1) := by decide +kernel
theorem d_Sh_edgesHaveDirections_91 : decode b_Sh_edgesHaveDirections 91 = .ok (.getfield 21, 3) := by decide +kernel
theorem d_Sh_edgesHaveDirections_94 : decode b_Sh_edgesHaveDirections 94 = .ok (.iload_n 2, 1) := by decide +kernel
theorem d_Sh_edgesHaveDirections_95 : decode b_Sh_edgesHaveDirections 95 = .ok (.aload_n 1, 1) := by decide +kernel
theorem d_Sh_edgesHaveDirections_96 : decode b_Sh_edgesHaveDirections 96 = .ok (.iload_n 3, 1) := by decide +kernel
theorem d_Sh_edgesHaveDirections_97 : decode b_Sh_edgesHaveDirections 97 = .ok (.invokevirtual 86, 3) := by decide +kernel
theorem d_Sh_edgesHaveDirections_100 : decode b_Sh_edgesHaveDirections 100 = .ok (.ifCond .eq 8, 3) := by decide +kernel
theorem d_Sh_edgesHaveDirections_108 : decode b_Sh_edgesHaveDirections 108 = .ok (.iload_n 3, 1) := by decide +kernel
theorem d_Sh_edgesHaveDirections_103 : decode b_Sh_edgesHaveDirections 103 = .ok (.iload 4, 2) := by decide +kernel
theorem d_Sh_edgesHaveDirections_105 : decode b_Sh_edgesHaveDirections 105 = .ok (.goto 4, 3) := by decide +kernel
theorem d_Sh_edgesHaveDirections_12 : decode b_Sh_edgesHaveDirections 12 = .ok (.aload_n 0, 1) := by decide +kernel
theorem d_Sh_edgesHaveDirections_13 : decode b_Sh_edgesHaveDirections 13 = .ok (.iconst 2, 1) := by decide +kernel
theorem d_Sh_edgesHaveDirections_14 : decode b_Sh_edgesHaveDirections 14 = .ok (.iload_n 2, 1) := by decide +kernel
theorem d_Sh_edgesHaveDirections_15 : decode b_Sh_edgesHaveDirections 15 = .ok (.imul, 1) := by decide +kernel
theorem d_Sh_edgesHaveDirections_16 : decode b_Sh_edgesHaveDirections 16 = .ok (.invokevirtual 83, 3) := by decide +kernel
theorem d_Sh_edgesHaveDirections_19 : decode b_Sh_edgesHaveDirections 19 = .ok (.istore_n 3, 1) := by decide +kernel
theorem d_Sh_edgesHaveDirections_20 : decode b_Sh_edgesHaveDirections 20 = .ok (.aload_n 0, 1) := by decide +kernel
theorem d_Sh_edgesHaveDirections_21 : decode b_Sh_edgesHaveDirections 21 = .ok (.iconst 2, 1) := by decide +kernel
theorem d_Sh_edgesHaveDirections_22 : decode b_Sh_edgesHaveDirections 22 = .ok (.iload_n 2, 1) := by decide +kernel
theorem d_Sh_edgesHaveDirections_23 : decode b_Sh_edgesHaveDirections 23 = .ok (.imul, 1) := by decide +kernel
theorem d_Sh_edgesHaveDirections_24 : decode b_Sh_edgesHaveDirections 24 = .ok (.iconst 1, 1) := by decide +kernel
theorem d_Sh_edgesHaveDirections_25 : decode b_Sh_edgesHaveDirections 25 = .ok (.iadd, 1) := by decide +kernel
theorem d_Sh_edgesHaveDirections_26 : decode b_Sh_edgesHaveDirections 26 = .ok (.invokevirtual 83, 3) := by decide +kernel
theorem d_Sh_edgesHaveDirections_29 : decode b_Sh_edgesHaveDirections 29 = .ok (.istore 4, 2) := by decide +kernel
theorem d_Sh_edgesHaveDirections_31 : decode b_Sh_edgesHaveDirections 31 = .ok (.aload_n 0, 1) := by decide +kernel
theorem d_Sh_edgesHaveDirections_32 : decode b_Sh_edgesHaveDirections 32 = .ok (.getfield 15, 3) := by decide +kernel
theorem d_Sh_edgesHaveDirections_35 : decode b_Sh_edgesHaveDirections 35 = .ok (.iload_n 2, 1) := by decide +kernel
theorem d_Sh_edgesHaveDirections_36 : decode b_Sh_edgesHaveDirections 36 = .ok (.aload_n 0, 1) := by decide +kernel
theorem d_Sh_edgesHaveDirections_37 : decode b_Sh_edgesHaveDirections 37 = .ok (.iconst 2, 1) := by decide +kernel
theorem d_Sh_edgesHaveDirections_38 : decode b_Sh_edgesHaveDirections 38 = .ok (.iload_n 2, 1) := by decide +kernel
theorem d_Sh_edgesHaveDirections_39 : decode b_Sh_edgesHaveDirections 39 = .ok (.imul, 1) := by decide +kernel
theorem d_Sh_edgesHaveDirections_40 : decode b_Sh_edgesHaveDirections 40 = .ok (.invokevirtual 75, 3) := by decide +kernel
theorem d_Sh_edgesHaveDirections_43 : decode b_Sh_edgesHaveDirections 43 = .ok (.iastore, 1) := by decide +kernel
theorem d_Sh_edgesHaveDirections_44 : decode b_Sh_edgesHaveDirections 44 = .ok (.aload_n 1, 1) := by decide +kernel
theorem d_Sh_edgesHaveDirections_45 : decode b_Sh_edgesHaveDirections 45 = .ok (.iload_n 3, 1) := by decide +kernel
theorem d_Sh_edgesHaveDirections_46 : decode b_Sh_edgesHaveDirections 46 = .ok (.invokevirtual 86, 3) := by decide +kernel
theorem d_Sh_edgesHaveDirections_49 : decode b_Sh_edgesHaveDirections 49 = .ok (.aload_n 1, 1) := by decide +kernel
theorem d_Sh_edgesHaveDirections_50 : decode b_Sh_edgesHaveDirections 50 = .ok (.iload 4, 2) := by decide +kernel
theorem d_Sh_edgesHaveDirections_52 : decode b_Sh_edgesHaveDirections 52 = .ok (.invokevirtual 86, 3) := by decide +kernel
theorem d_Sh_edgesHaveDirections_55 : decode b_Sh_edgesHaveDirections 55 = .ok (.if_icmp .ne 15, 3) := by decide +kernel
theorem d_Sh_edgesHaveDirections_70 : decode b_Sh_edgesHaveDirections 70 = .ok (.aload_n 0, 1) := by decide +kernel
theorem d_Sh_edgesHaveDirections_71 : decode b_Sh_edgesHaveDirections 71 = .ok (.getfield 18, 3) := by decide +kernel
theorem d_Sh_edgesHaveDirections_74 : decode b_Sh_edgesHaveDirections 74 = .ok (.iload_n 2, 1) := by decide +kernel
theorem d_Sh_edgesHaveDirections_75 : decode b_Sh_edgesHaveDirections 75 = .ok (.aload_n 1, 1) := by decide +kernel
theorem d_Sh_edgesHaveDirections_76 : decode b_Sh_edgesHaveDirections 76 = .ok (.iload_n 3, 1) := by decide +kernel
theorem d_Sh_edgesHaveDirections_77 : decode b_Sh_edgesHaveDirections 77 = .ok (.invokevirtual 86, 3) := by decide +kernel
theorem d_Sh_edgesHaveDirections_80 : decode b_Sh_edgesHaveDirections 80 = .ok (.ifCond .eq 7, 3) := by decide +kernel
theorem d_Sh_edgesHaveDirections_87 : decode b_Sh_edgesHaveDirections 87 = .ok (.iload 4, 2) := by decide +kernel
theorem d_Sh_edgesHaveDirections_83 : decode b_Sh_edgesHaveDirections 83 = .ok (.iload_n 3, 1) := by decide +kernel
theorem d_Sh_edgesHaveDirections_84 : decode b_Sh_edgesHaveDirections 84 = .ok (.goto 5, 3) := by decide +kernel
theorem d_Sh_edgesHaveDirections_58 : decode b_Sh_edgesHaveDirections 58 = .ok (.aload_n 0, 1) := by decide +kernel
theorem d_Sh_edgesHaveDirections_59 : decode b_Sh_edgesHaveDirections 59 = .ok (.iconst 2, 1) := by decide +kernel
theorem d_Sh_edgesHaveDirections_60 : decode b_Sh_edgesHaveDirections 60 = .ok (.aload_n 0, 1) := by decide +kernel
theorem d_Sh_edgesHaveDirections_61 : decode b_Sh_edgesHaveDirections 61 = .ok (.getfield 15, 3) := by decide +kernel
theorem d_Sh_edgesHaveDirections_64 : decode b_Sh_edgesHaveDirections 64 = .ok (.iload_n 2, 1) := by decide +kernel
theorem d_Sh_edgesHaveDirections_65 : decode b_Sh_edgesHaveDirections 65 = .ok (.iaload, 1) := by decide +kernel
theorem d_Sh_edgesHaveDirections_66 : decode b_Sh_edgesHaveDirections 66 = .ok (.invokevirtual 79, 3) := by decide +kernel
theorem d_Sh_edgesHaveDirections_69 : decode b_Sh_edgesHaveDirections 69 = .ok (.ireturn, 1) := by decide +kernel
theorem d_Sh_findFaces_100 : decode b_Sh_findFaces 100 = .ok (.iinc 1 1, 3) := by decide +kernel
theorem d_Sh_findFaces_103 : decode b_Sh_findFaces 103 = .ok (.goto (-93), 3) := by decide +kernel
theorem d_Sh_findFaces_70 : decode b_Sh_findFaces 70 = .ok (.aload_n 0, 1) := by decide +kernel
theorem d_Sh_findFaces_71 : decode b_Sh_findFaces 71 = .ok (.getfield 39, 3) := by decide +kernel
theorem d_Sh_findFaces_74 : decode b_Sh_findFaces 74 = .ok (.aload_n 0, 1) := by decide +kernel
theorem d_Sh_findFaces_75 : decode b_Sh_findFaces 75 = .ok (.getfield 58, 3) := by decide +kernel
theorem d_Sh_findFaces_78 : decode b_Sh_findFaces 78 = .ok (.iload_n 1, 1) := by decide +kernel
theorem d_Sh_findFaces_79 : decode b_Sh_findFaces 79 = .ok (.iastore, 1) := by decide +kernel
theorem d_Sh_findFaces_80 : decode b_Sh_findFaces 80 = .ok (.aload_n 0, 1) := by decide +kernel
theorem d_Sh_findFaces_81 : decode b_Sh_findFaces 81 = .ok (.getfield 42, 3) := by decide +kernel
theorem d_Sh_findFaces_84 : decode b_Sh_findFaces 84 = .ok (.aload_n 0, 1) := by decide +kernel
theorem d_Sh_findFaces_85 : decode b_Sh_findFaces 85 = .ok (.getfield 58, 3) := by decide +kernel
theorem d_Sh_findFaces_88 : decode b_Sh_findFaces 88 = .ok (.iload_n 3, 1) := by decide +kernel
theorem d_Sh_findFaces_89 : decode b_Sh_findFaces 89 = .ok (.iastore, 1) := by decide +kernel
theorem d_Sh_findFaces_90 : decode b_Sh_findFaces 90 = .ok (.aload_n 0, 1) := by decide +kernel
theorem d_Sh_findFaces_91 : decode b_Sh_findFaces 91 = .ok (.dup, 1) := by decide +kernel
theorem d_Sh_findFaces_92 : decode b_Sh_findFaces 92 = .ok (.getfield 58, 3) := by decide +kernel
theorem d_Sh_findFaces_95 : decode b_Sh_findFaces 95 = .ok (.iconst 1, 1) := by decide +kernel
theorem d_Sh_findFaces_96 : decode b_Sh_findFaces 96 = .ok (.iadd, 1) := by decide +kernel
theorem d_Sh_findFaces_97 : decode b_Sh_findFaces 97 = .ok (.putfield 58, 3) := by decide +kernel
theorem d_Sh_findFaces_33 : decode b_Sh_findFaces 33 = .ok (.iload_n 3, 1) := by decide +kernel
theorem d_Sh_findFaces_34 : decode b_Sh_findFaces 34 = .ok (.bipush 80, 2) := by decide +kernel
theorem d_Sh_findFaces_36 : decode b_Sh_findFaces 36 = .ok (.if_icmp .ge 34, 3) := by decide +kernel
theorem d_Sh_findFaces_39 : decode b_Sh_findFaces 39 = .ok (.aload_n 0, 1) := by decide +kernel
theorem d_Sh_findFaces_40 : decode b_Sh_findFaces 40 = .ok (.getfield 36, 3) := by decide +kernel
theorem d_Sh_findFaces_43 : decode b_Sh_findFaces 43 = .ok (.iload_n 2, 1) := by decide +kernel
theorem d_Sh_findFaces_44 : decode b_Sh_findFaces 44 = .ok (.iaload, 1) := by decide +kernel
theorem d_Sh_findFaces_45 : decode b_Sh_findFaces 45 = .ok (.ifCond .ge 25, 3) := by decide +kernel
theorem d_Sh_findFaces_48 : decode b_Sh_findFaces 48 = .ok (.aload_n 0, 1) := by decide +kernel
theorem d_Sh_findFaces_49 : decode b_Sh_findFaces 49 = .ok (.getfield 36, 3) := by decide +kernel
theorem d_Sh_findFaces_52 : decode b_Sh_findFaces 52 = .ok (.iload_n 2, 1) := by decide +kernel
theorem d_Sh_findFaces_53 : decode b_Sh_findFaces 53 = .ok (.aload_n 0, 1) := by decide +kernel
theorem d_Sh_findFaces_54 : decode b_Sh_findFaces 54 = .ok (.getfield 58, 3) := by decide +kernel
theorem d_Sh_findFaces_57 : decode b_Sh_findFaces 57 = .ok (.iastore, 1) := by decide +kernel
theorem d_Sh_findFaces_58 : decode b_Sh_findFaces 58 = .ok (.iinc 3 1, 3) := by decide +kernel
theorem d_Sh_findFaces_61 : decode b_Sh_findFaces 61 = .ok (.aload_n 0, 1) := by decide +kernel
theorem d_Sh_findFaces_62 : decode b_Sh_findFaces 62 = .ok (.iload_n 2, 1) := by decide +kernel
theorem d_Sh_findFaces_63 : decode b_Sh_findFaces 63 = .ok (.invokevirtual 102, 3) := by decide +kernel
theorem d_Sh_findFaces_66 : decode b_Sh_findFaces 66 = .ok (.istore_n 2, 1) := by decide +kernel
theorem d_Sh_findFaces_67 : decode b_Sh_findFaces 67 = .ok (.goto (-34), 3) := by decide +kernel
theorem d_Sh_findFaces_20 : decode b_Sh_findFaces 20 = .ok (.aload_n 0, 1) := by decide +kernel
theorem d_Sh_findFaces_21 : decode b_Sh_findFaces 21 = .ok (.getfield 36, 3) := by decide +kernel
theorem d_Sh_findFaces_24 : decode b_Sh_findFaces 24 = .ok (.iload_n 1, 1) := by decide +kernel
theorem d_Sh_findFaces_25 : decode b_Sh_findFaces 25 = .ok (.iaload, 1) := by decide +kernel
theorem d_Sh_findFaces_26 : decode b_Sh_findFaces 26 = .ok (.ifCond .ge 74, 3) := by decide +kernel
theorem d_Sh_findFaces_29 : decode b_Sh_findFaces 29 = .ok (.iload_n 1, 1) := by decide +kernel
theorem d_Sh_findFaces_30 : decode b_Sh_findFaces 30 = .ok (.istore_n 2, 1) := by decide +kernel
theorem d_Sh_findFaces_31 : decode b_Sh_findFaces 31 = .ok (.iconst 0, 1) := by decide +kernel
theorem d_Sh_findFaces_32 : decode b_Sh_findFaces 32 = .ok (.istore_n 3, 1) := by decide +kernel
theorem d_Br_close_192 : decode b_Br_close 192 = .ok (.iinc 2 1, 3) := by decide +kernel
theorem d_Br_close_195 : decode b_Br_close 195 = .ok (.goto (-49), 3) := by decide +kernel
theorem d_Br_close_146 : decode b_Br_close 146 = .ok (.iload_n 2, 1) := by decide +kernel
theorem d_Br_close_147 : decode b_Br_close 147 = .ok (.aload_n 0, 1) := by decide +kernel
theorem d_Br_close_148 : decode b_Br_close 148 = .ok (.getfield 21, 3) := by decide +kernel
theorem d_Br_close_151 : decode b_Br_close 151 = .ok (.if_icmp .ge 47, 3) := by decide +kernel
theorem d_Br_close_198 : decode b_Br_close 198 = .ok (.return_, 1) := by decide +kernel
theorem d_Br_close_154 : decode b_Br_close 154 = .ok (.aload_n 0, 1) := by decide +kernel
theorem d_Br_close_155 : decode b_Br_close 155 = .ok (.getfield 18, 3) := by decide +kernel
theorem d_Br_close_158 : decode b_Br_close 158 = .ok (.iload_n 2, 1) := by decide +kernel
theorem d_Br_close_159 : decode b_Br_close 159 = .ok (.iaload, 1) := by decide +kernel
theorem d_Br_close_160 : decode b_Br_close 160 = .ok (.iload_n 2, 1) := by decide +kernel
theorem d_Br_close_161 : decode b_Br_close 161 = .ok (.iconst 1, 1) := by decide +kernel
theorem d_Br_close_162 : decode b_Br_close 162 = .ok (.iadd, 1) := by decide +kernel
theorem d_Br_close_163 : decode b_Br_close 163 = .ok (.if_icmp .ne 16, 3) := by decide +kernel
theorem d_Br_close_179 : decode b_Br_close 179 = .ok (.aload_n 1, 1) := by decide +kernel
theorem d_Br_close_180 : decode b_Br_close 180 = .ok (.aload_n 0, 1) := by decide +kernel
theorem d_Br_close_181 : decode b_Br_close 181 = .ok (.getfield 18, 3) := by decide +kernel
theorem d_Br_close_184 : decode b_Br_close 184 = .ok (.iload_n 2, 1) := by decide +kernel
theorem d_Br_close_185 : decode b_Br_close 185 = .ok (.iaload, 1) := by decide +kernel
theorem d_Br_close_186 : decode b_Br_close 186 = .ok (.iload_n 2, 1) := by decide +kernel
theorem d_Br_close_187 : decode b_Br_close 187 = .ok (.iconst 1, 1) := by decide +kernel
theorem d_Br_close_188 : decode b_Br_close 188 = .ok (.iadd, 1) := by decide +kernel
theorem d_Br_close_189 : decode b_Br_close 189 = .ok (.invokevirtual 59, 3) := by decide +kernel
theorem d_Br_close_166 : decode b_Br_close 166 = .ok (.aload_n 1, 1) := by decide +kernel
theorem d_Br_close_167 : decode b_Br_close 167 = .ok (.dup, 1) := by decide +kernel
theorem d_Br_close_168 : decode b_Br_close 168 = .ok (.getfield 56, 3) := by decide +kernel
theorem d_Br_close_171 : decode b_Br_close 171 = .ok (.iconst 1, 1) := by decide +kernel
theorem d_Br_close_172 : decode b_Br_close 172 = .ok (.iadd, 1) := by decide +kernel
theorem d_Br_close_173 : decode b_Br_close 173 = .ok (.putfield 56, 3) := by decide +kernel
theorem d_Br_close_176 : decode b_Br_close 176 = .ok (.goto 16, 3) := by decide +kernel
theorem d_Br_close_101 : decode b_Br_close 101 = .ok (.aload_n 0, 1) := by decide +kernel
theorem d_Br_close_102 : decode b_Br_close 102 = .ok (.getfield 18, 3) := by decide +kernel
theorem d_Br_close_105 : decode b_Br_close 105 = .ok (.iload 4, 2) := by decide +kernel
theorem d_Br_close_107 : decode b_Br_close 107 = .ok (.iaload, 1) := by decide +kernel
theorem d_Br_close_108 : decode b_Br_close 108 = .ok (.iload 6, 2) := by decide +kernel
theorem d_Br_close_110 : decode b_Br_close 110 = .ok (.aload_n 0, 1) := by decide +kernel
theorem d_Br_close_111 : decode b_Br_close 111 = .ok (.getfield 18, 3) := by decide +kernel
theorem d_Br_close_114 : decode b_Br_close 114 = .ok (.iload_n 3, 1) := by decide +kernel
theorem d_Br_close_115 : decode b_Br_close 115 = .ok (.iaload, 1) := by decide +kernel
theorem d_Br_close_116 : decode b_Br_close 116 = .ok (.iload 5, 2) := by decide +kernel
theorem d_Br_close_118 : decode b_Br_close 118 = .ok (.invokevirtual 52, 3) := by decide +kernel
theorem d_Br_close_121 : decode b_Br_close 121 = .ok (.aload_n 0, 1) := by decide +kernel
theorem d_Br_close_122 : decode b_Br_close 122 = .ok (.getfield 18, 3) := by decide +kernel
theorem d_Br_close_125 : decode b_Br_close 125 = .ok (.iload 4, 2) := by decide +kernel
theorem d_Br_close_127 : decode b_Br_close 127 = .ok (.iload 5, 2) := by decide +kernel
theorem d_Br_close_129 : decode b_Br_close 129 = .ok (.iastore, 1) := by decide +kernel
theorem d_Br_close_130 : decode b_Br_close 130 = .ok (.aload_n 0, 1) := by decide +kernel
theorem d_Br_close_131 : decode b_Br_close 131 = .ok (.getfield 18, 3) := by decide +kernel
theorem d_Br_close_134 : decode b_Br_close 134 = .ok (.iload_n 3, 1) := by decide +kernel
theorem d_Br_close_135 : decode b_Br_close 135 = .ok (.iload 6, 2) := by decide +kernel
theorem d_Br_close_137 : decode b_Br_close 137 = .ok (.iastore, 1) := by decide +kernel
theorem d_Br_close_138 : decode b_Br_close 138 = .ok (.iinc 2 1, 3) := by decide +kernel
theorem d_Br_close_141 : decode b_Br_close 141 = .ok (.goto (-110), 3) := by decide +kernel
theorem d_Br_close_86 : decode b_Br_close 86 = .ok (.istore 7, 2) := by decide +kernel
theorem d_Br_close_88 : decode b_Br_close 88 = .ok (.aload_n 1, 1) := by decide +kernel
theorem d_Br_close_89 : decode b_Br_close 89 = .ok (.iload 7, 2) := by decide +kernel
theorem d_Br_close_91 : decode b_Br_close 91 = .ok (.iload 7, 2) := by decide +kernel
theorem d_Br_close_93 : decode b_Br_close 93 = .ok (.ifCond .ge 7, 3) := by decide +kernel
theorem d_Br_close_100 : decode b_Br_close 100 = .ok (.iconst 0, 1) := by decide +kernel
theorem d_Br_close_96 : decode b_Br_close 96 = .ok (.iconst 1, 1) := by decide +kernel
theorem d_Br_close_97 : decode b_Br_close 97 = .ok (.goto 4, 3) := by decide +kernel
theorem d_Br_close_31 : decode b_Br_close 31 = .ok (.iload_n 2, 1) := by decide +kernel
theorem d_Br_close_32 : decode b_Br_close 32 = .ok (.aload_n 0, 1) := by decide +kernel
theorem d_Br_close_33 : decode b_Br_close 33 = .ok (.getfield 40, 3) := by decide +kernel
theorem d_Br_close_36 : decode b_Br_close 36 = .ok (.if_icmp .ge 108, 3) := by decide +kernel
theorem d_Br_close_144 : decode b_Br_close 144 = .ok (.iconst 0, 1) := by decide +kernel
theorem d_Br_close_145 : decode b_Br_close 145 = .ok (.istore_n 2, 1) := by decide +kernel
theorem d_Br_close_39 : decode b_Br_close 39 = .ok (.aload_n 0, 1) := by decide +kernel
theorem d_Br_close_40 : decode b_Br_close 40 = .ok (.getfield 9, 3) := by decide +kernel
theorem d_Br_close_43 : decode b_Br_close 43 = .ok (.iload_n 2, 1) := by decide +kernel
