theorem d_Md_findArcs_167 : decode b_Md_findArcs 167 = .ok (.dup, 1) := by decide +kernel
theorem d_Md_findArcs_168 : decode b_Md_findArcs 168 = .ok (.getfield 459, 3) := by decide +kernel
theorem d_Md_findArcs_171 : decode b_Md_findArcs 171 = .ok (.iconst 1, 1) := by decide +kernel
theorem d_Md_findArcs_172 : decode b_Md_findArcs 172 = .ok (.iadd, 1) := by decide +kernel
theorem d_Md_findArcs_173 : decode b_Md_findArcs 173 = .ok (.putfield 459, 3) := by decide +kernel
theorem d_Md_findArcs_146 : decode b_Md_findArcs 146 = .ok (.aload_n 0, 1) := by decide +kernel
theorem d_Md_findArcs_147 : decode b_Md_findArcs 147 = .ok (.getfield 108, 3) := by decide +kernel
theorem d_Md_findArcs_150 : decode b_Md_findArcs 150 = .ok (.iload_n 2, 1) := by decide +kernel
theorem d_Md_findArcs_151 : decode b_Md_findArcs 151 = .ok (.aload_n 0, 1) := by decide +kernel
theorem d_Md_findArcs_152 : decode b_Md_findArcs 152 = .ok (.getfield 459, 3) := by decide +kernel
theorem d_Md_findArcs_155 : decode b_Md_findArcs 155 = .ok (.iastore, 1) := by decide +kernel
theorem d_Md_findArcs_156 : decode b_Md_findArcs 156 = .ok (.aload_n 0, 1) := by decide +kernel
theorem d_Md_findArcs_157 : decode b_Md_findArcs 157 = .ok (.getfield 75, 3) := by decide +kernel
theorem d_Md_findArcs_160 : decode b_Md_findArcs 160 = .ok (.iload_n 2, 1) := by decide +kernel
theorem d_Md_findArcs_161 : decode b_Md_findArcs 161 = .ok (.iaload, 1) := by decide +kernel
theorem d_Md_findArcs_162 : decode b_Md_findArcs 162 = .ok (.istore_n 2, 1) := by decide +kernel
theorem d_Md_findArcs_163 : decode b_Md_findArcs 163 = .ok (.goto (-26), 3) := by decide +kernel
theorem d_Md_findArcs_115 : decode b_Md_findArcs 115 = .ok (.iload_n 1, 1) := by decide +kernel
theorem d_Md_findArcs_116 : decode b_Md_findArcs 116 = .ok (.aload_n 0, 1) := by decide +kernel
theorem d_Md_findArcs_117 : decode b_Md_findArcs 117 = .ok (.getfield 309, 3) := by decide +kernel
theorem d_Md_findArcs_120 : decode b_Md_findArcs 120 = .ok (.if_icmp .ge 62, 3) := by decide +kernel
theorem d_Md_findArcs_182 : decode b_Md_findArcs 182 = .ok (.aload_n 0, 1) := by decide +kernel
theorem d_Md_findArcs_183 : decode b_Md_findArcs 183 = .ok (.dup, 1) := by decide +kernel
theorem d_Md_findArcs_184 : decode b_Md_findArcs 184 = .ok (.getfield 459, 3) := by decide +kernel
theorem d_Md_findArcs_187 : decode b_Md_findArcs 187 = .ok (.aload_n 0, 1) := by decide +kernel
theorem d_Md_findArcs_188 : decode b_Md_findArcs 188 = .ok (.getfield 37, 3) := by decide +kernel
theorem d_Md_findArcs_191 : decode b_Md_findArcs 191 = .ok (.getfield 354, 3) := by decide +kernel
theorem d_Md_findArcs_194 : decode b_Md_findArcs 194 = .ok (.iadd, 1) := by decide +kernel
theorem d_Md_findArcs_195 : decode b_Md_findArcs 195 = .ok (.putfield 459, 3) := by decide +kernel
theorem d_Md_findArcs_198 : decode b_Md_findArcs 198 = .ok (.return_, 1) := by decide +kernel
theorem d_Md_findArcs_123 : decode b_Md_findArcs 123 = .ok (.aload_n 0, 1) := by decide +kernel
theorem d_Md_findArcs_124 : decode b_Md_findArcs 124 = .ok (.getfield 108, 3) := by decide +kernel
theorem d_Md_findArcs_127 : decode b_Md_findArcs 127 = .ok (.iload_n 1, 1) := by decide +kernel
theorem d_Md_findArcs_128 : decode b_Md_findArcs 128 = .ok (.iaload, 1) := by decide +kernel
theorem d_Md_findArcs_129 : decode b_Md_findArcs 129 = .ok (.ifCond .lt 6, 3) := by decide +kernel
theorem d_Md_findArcs_135 : decode b_Md_findArcs 135 = .ok (.iload_n 1, 1) := by decide +kernel
theorem d_Md_findArcs_136 : decode b_Md_findArcs 136 = .ok (.istore_n 2, 1) := by decide +kernel
theorem d_Md_findArcs_132 : decode b_Md_findArcs 132 = .ok (.goto 44, 3) := by decide +kernel
theorem d_Md_findArcs_107 : decode b_Md_findArcs 107 = .ok (.iinc 1 1, 3) := by decide +kernel
theorem d_Md_findArcs_110 : decode b_Md_findArcs 110 = .ok (.goto (-80), 3) := by decide +kernel
theorem d_Md_findArcs_55 : decode b_Md_findArcs 55 = .ok (.aload_n 0, 1) := by decide +kernel
theorem d_Md_findArcs_56 : decode b_Md_findArcs 56 = .ok (.getfield 72, 3) := by decide +kernel
theorem d_Md_findArcs_59 : decode b_Md_findArcs 59 = .ok (.iload_n 2, 1) := by decide +kernel
theorem d_Md_findArcs_60 : decode b_Md_findArcs 60 = .ok (.iaload, 1) := by decide +kernel
theorem d_Md_findArcs_61 : decode b_Md_findArcs 61 = .ok (.invokestatic 370, 3) := by decide +kernel
theorem d_Md_findArcs_64 : decode b_Md_findArcs 64 = .ok (.ifCond .eq 23, 3) := by decide +kernel
theorem d_Md_findArcs_87 : decode b_Md_findArcs 87 = .ok (.aload_n 0, 1) := by decide +kernel
theorem d_Md_findArcs_88 : decode b_Md_findArcs 88 = .ok (.getfield 108, 3) := by decide +kernel
theorem d_Md_findArcs_91 : decode b_Md_findArcs 91 = .ok (.iload_n 2, 1) := by decide +kernel
theorem d_Md_findArcs_92 : decode b_Md_findArcs 92 = .ok (.aload_n 0, 1) := by decide +kernel
theorem d_Md_findArcs_93 : decode b_Md_findArcs 93 = .ok (.getfield 459, 3) := by decide +kernel
theorem d_Md_findArcs_96 : decode b_Md_findArcs 96 = .ok (.iastore, 1) := by decide +kernel
theorem d_Md_findArcs_97 : decode b_Md_findArcs 97 = .ok (.aload_n 0, 1) := by decide +kernel
theorem d_Md_findArcs_98 : decode b_Md_findArcs 98 = .ok (.dup, 1) := by decide +kernel
theorem d_Md_findArcs_99 : decode b_Md_findArcs 99 = .ok (.getfield 459, 3) := by decide +kernel
theorem d_Md_findArcs_102 : decode b_Md_findArcs 102 = .ok (.iconst 1, 1) := by decide +kernel
theorem d_Md_findArcs_103 : decode b_Md_findArcs 103 = .ok (.iadd, 1) := by decide +kernel
theorem d_Md_findArcs_104 : decode b_Md_findArcs 104 = .ok (.putfield 459, 3) := by decide +kernel
theorem d_Md_findArcs_67 : decode b_Md_findArcs 67 = .ok (.aload_n 0, 1) := by decide +kernel
theorem d_Md_findArcs_68 : decode b_Md_findArcs 68 = .ok (.getfield 108, 3) := by decide +kernel
theorem d_Md_findArcs_71 : decode b_Md_findArcs 71 = .ok (.iload_n 2, 1) := by decide +kernel
theorem d_Md_findArcs_72 : decode b_Md_findArcs 72 = .ok (.aload_n 0, 1) := by decide +kernel
theorem d_Md_findArcs_73 : decode b_Md_findArcs 73 = .ok (.getfield 459, 3) := by decide +kernel
theorem d_Md_findArcs_76 : decode b_Md_findArcs 76 = .ok (.iastore, 1) := by decide +kernel
theorem d_Md_findArcs_77 : decode b_Md_findArcs 77 = .ok (.aload_n 0, 1) := by decide +kernel
theorem d_Md_findArcs_78 : decode b_Md_findArcs 78 = .ok (.getfield 75, 3) := by decide +kernel
theorem d_Md_findArcs_81 : decode b_Md_findArcs 81 = .ok (.iload_n 2, 1) := by decide +kernel
theorem d_Md_findArcs_82 : decode b_Md_findArcs 82 = .ok (.iaload, 1) := by decide +kernel
theorem d_Md_findArcs_83 : decode b_Md_findArcs 83 = .ok (.istore_n 2, 1) := by decide +kernel
theorem d_Md_findArcs_84 : decode b_Md_findArcs 84 = .ok (.goto (-29), 3) := by decide +kernel
theorem d_Md_findArcs_30 : decode b_Md_findArcs 30 = .ok (.iload_n 1, 1) := by decide +kernel
theorem d_Md_findArcs_31 : decode b_Md_findArcs 31 = .ok (.aload_n 0, 1) := by decide +kernel
theorem d_Md_findArcs_32 : decode b_Md_findArcs 32 = .ok (.getfield 309, 3) := by decide +kernel
theorem d_Md_findArcs_35 : decode b_Md_findArcs 35 = .ok (.if_icmp .ge 78, 3) := by decide +kernel
theorem d_Md_findArcs_113 : decode b_Md_findArcs 113 = .ok (.iconst 0, 1) := by decide +kernel
theorem d_Md_findArcs_114 : decode b_Md_findArcs 114 = .ok (.istore_n 1, 1) := by decide +kernel
theorem d_Md_findArcs_38 : decode b_Md_findArcs 38 = .ok (.aload_n 0, 1) := by decide +kernel
theorem d_Md_findArcs_39 : decode b_Md_findArcs 39 = .ok (.getfield 69, 3) := by decide +kernel
theorem d_Md_findArcs_42 : decode b_Md_findArcs 42 = .ok (.iload_n 1, 1) := by decide +kernel
theorem d_Md_findArcs_43 : decode b_Md_findArcs 43 = .ok (.iaload, 1) := by decide +kernel
theorem d_Md_findArcs_44 : decode b_Md_findArcs 44 = .ok (.invokestatic 370, 3) := by decide +kernel
theorem d_Md_findArcs_47 : decode b_Md_findArcs 47 = .ok (.ifCond .eq 6, 3) := by decide +kernel
theorem d_Md_findArcs_53 : decode b_Md_findArcs 53 = .ok (.iload_n 1, 1) := by decide +kernel
theorem d_Md_findArcs_54 : decode b_Md_findArcs 54 = .ok (.istore_n 2, 1) := by decide +kernel
theorem d_Md_findArcs_50 : decode b_Md_findArcs 50 = .ok (.goto 57, 3) := by decide +kernel
theorem d_Md_findArcs_7 : decode b_Md_findArcs 7 = .ok (.iload_n 1, 1) := by decide +kernel
theorem d_Md_findArcs_8 : decode b_Md_findArcs 8 = .ok (.aload_n 0, 1) := by decide +kernel
theorem d_Md_findArcs_9 : decode b_Md_findArcs 9 = .ok (.getfield 309, 3) := by decide +kernel
theorem d_Md_findArcs_12 : decode b_Md_findArcs 12 = .ok (.if_icmp .ge 16, 3) := by decide +kernel
theorem d_Md_findArcs_28 : decode b_Md_findArcs 28 = .ok (.iconst 0, 1) := by decide +kernel
theorem d_Md_findArcs_29 : decode b_Md_findArcs 29 = .ok (.istore_n 1, 1) := by decide +kernel
theorem d_Md_findArcs_15 : decode b_Md_findArcs 15 = .ok (.aload_n 0, 1) := by decide +kernel
theorem d_Md_findArcs_16 : decode b_Md_findArcs 16 = .ok (.getfield 108, 3) := by decide +kernel
theorem d_Md_findArcs_19 : decode b_Md_findArcs 19 = .ok (.iload_n 1, 1) := by decide +kernel
theorem d_Md_findArcs_20 : decode b_Md_findArcs 20 = .ok (.iconst (-1), 1) := by decide +kernel
theorem d_Md_findArcs_21 : decode b_Md_findArcs 21 = .ok (.iastore, 1) := by decide +kernel
theorem d_Md_findArcs_22 : decode b_Md_findArcs 22 = .ok (.iinc 1 1, 3) := by decide +kernel
theorem d_Md_findArcs_25 : decode b_Md_findArcs 25 = .ok (.goto (-18), 3) := by decide +kernel
theorem d_Md_findArcs_0 : decode b_Md_findArcs 0 = .ok (.aload_n 0, 1) := by decide +kernel
theorem d_Md_findArcs_1 : decode b_Md_findArcs 1 = .ok (.iconst 0, 1) := by decide +kernel
theorem d_Md_findArcs_2 : decode b_Md_findArcs 2 = .ok (.putfield 459, 3) := by decide +kernel
theorem d_Md_findArcs_5 : decode b_Md_findArcs 5 = .ok (.iconst 0, 1) := by decide +kernel
theorem d_Md_findArcs_6 : decode b_Md_findArcs 6 = .ok (.istore_n 1, 1) := by decide +kernel
theorem d_Md_seifert_116 : decode b_Md_seifert 116 = .ok (.iinc 2 1, 3) := by decide +kernel
theorem d_Md_seifert_119 : decode b_Md_seifert 119 = .ok (.goto (-92), 3) := by decide +kernel
theorem d_Md_seifert_111 : decode b_Md_seifert 111 = .ok (.iaload, 1) := by decide +kernel
theorem d_Md_seifert_112 : decode b_Md_seifert 112 = .ok (.istore_n 3, 1) := by decide +kernel
theorem d_Md_seifert_113 : decode b_Md_seifert 113 = .ok (.goto (-61), 3) := by decide +kernel
theorem d_Md_seifert_52 : decode b_Md_seifert 52 = .ok (.aload_n 0, 1) := by decide +kernel
theorem d_Md_seifert_53 : decode b_Md_seifert 53 = .ok (.getfield 102, 3) := by decide +kernel
theorem d_Md_seifert_56 : decode b_Md_seifert 56 = .ok (.iload_n 3, 1) := by decide +kernel
theorem d_Md_seifert_57 : decode b_Md_seifert 57 = .ok (.iaload, 1) := by decide +kernel
theorem d_Md_seifert_58 : decode b_Md_seifert 58 = .ok (.ifCond .ne 58, 3) := by decide +kernel
theorem d_Md_seifert_61 : decode b_Md_seifert 61 = .ok (.aload_n 0, 1) := by decide +kernel
theorem d_Md_seifert_62 : decode b_Md_seifert 62 = .ok (.getfield 102, 3) := by decide +kernel
theorem d_Md_seifert_65 : decode b_Md_seifert 65 = .ok (.iload_n 3, 1) := by decide +kernel
theorem d_Md_seifert_66 : decode b_Md_seifert 66 = .ok (.iconst 1, 1) := by decide +kernel
theorem d_Md_seifert_67 : decode b_Md_seifert 67 = .ok (.iastore, 1) := by decide +kernel
theorem d_Md_seifert_68 : decode b_Md_seifert 68 = .ok (.aload_n 0, 1) := by decide +kernel
theorem d_Md_seifert_69 : decode b_Md_seifert 69 = .ok (.getfield 72, 3) := by decide +kernel
theorem d_Md_seifert_72 : decode b_Md_seifert 72 = .ok (.iload_n 3, 1) := by decide +kernel
theorem d_Md_seifert_73 : decode b_Md_seifert 73 = .ok (.iaload, 1) := by decide +kernel
theorem d_Md_seifert_74 : decode b_Md_seifert 74 = .ok (.istore 4, 2) := by decide +kernel
theorem d_Md_seifert_76 : decode b_Md_seifert 76 = .ok (.iload 4, 2) := by decide +kernel
theorem d_Md_seifert_78 : decode b_Md_seifert 78 = .ok (.iconst 2, 1) := by decide +kernel
theorem d_Md_seifert_79 : decode b_Md_seifert 79 = .ok (.ishr, 1) := by decide +kernel
theorem d_Md_seifert_80 : decode b_Md_seifert 80 = .ok (.istore 5, 2) := by decide +kernel
theorem d_Md_seifert_82 : decode b_Md_seifert 82 = .ok (.aload_n 0, 1) := by decide +kernel
theorem d_Md_seifert_83 : decode b_Md_seifert 83 = .ok (.getfield 81, 3) := by decide +kernel
theorem d_Md_seifert_86 : decode b_Md_seifert 86 = .ok (.iload 4, 2) := by decide +kernel
theorem d_Md_seifert_88 : decode b_Md_seifert 88 = .ok (.invokestatic 370, 3) := by decide +kernel
theorem d_Md_seifert_91 : decode b_Md_seifert 91 = .ok (.ifCond .eq 12, 3) := by decide +kernel
theorem d_Md_seifert_103 : decode b_Md_seifert 103 = .ok (.aload_n 0, 1) := by decide +kernel
theorem d_Md_seifert_104 : decode b_Md_seifert 104 = .ok (.iload 5, 2) := by decide +kernel
theorem d_Md_seifert_106 : decode b_Md_seifert 106 = .ok (.invokevirtual 360, 3) := by decide +kernel
theorem d_Md_seifert_109 : decode b_Md_seifert 109 = .ok (.iconst 2, 1) := by decide +kernel
theorem d_Md_seifert_110 : decode b_Md_seifert 110 = .ok (.ixor, 1) := by decide +kernel
theorem d_Md_seifert_94 : decode b_Md_seifert 94 = .ok (.iconst 4, 1) := by decide +kernel
theorem d_Md_seifert_95 : decode b_Md_seifert 95 = .ok (.iload 5, 2) := by decide +kernel
theorem d_Md_seifert_97 : decode b_Md_seifert 97 = .ok (.imul, 1) := by decide +kernel
theorem d_Md_seifert_98 : decode b_Md_seifert 98 = .ok (.iconst 2, 1) := by decide +kernel
theorem d_Md_seifert_99 : decode b_Md_seifert 99 = .ok (.iadd, 1) := by decide +kernel
theorem d_Md_seifert_100 : decode b_Md_seifert 100 = .ok (.goto 11, 3) := by decide +kernel
theorem d_Md_seifert_27 : decode b_Md_seifert 27 = .ok (.iload_n 2, 1) := by decide +kernel
theorem d_Md_seifert_28 : decode b_Md_seifert 28 = .ok (.aload_n 0, 1) := by decide +kernel
theorem d_Md_seifert_29 : decode b_Md_seifert 29 = .ok (.getfield 309, 3) := by decide +kernel
theorem d_Md_seifert_32 : decode b_Md_seifert 32 = .ok (.if_icmp .ge 90, 3) := by decide +kernel
theorem d_Md_seifert_122 : decode b_Md_seifert 122 = .ok (.iload_n 1, 1) := by decide +kernel
theorem d_Md_seifert_123 : decode b_Md_seifert 123 = .ok (.aload_n 0, 1) := by decide +kernel
theorem d_Md_seifert_124 : decode b_Md_seifert 124 = .ok (.getfield 37, 3) := by decide +kernel
theorem d_Md_seifert_127 : decode b_Md_seifert 127 = .ok (.getfield 354, 3) := by decide +kernel
theorem d_Md_seifert_130 : decode b_Md_seifert 130 = .ok (.iadd, 1) := by decide +kernel
theorem d_Md_seifert_131 : decode b_Md_seifert 131 = .ok (.ireturn, 1) := by decide +kernel
theorem d_Md_seifert_35 : decode b_Md_seifert 35 = .ok (.aload_n 0, 1) := by decide +kernel
theorem d_Md_seifert_36 : decode b_Md_seifert 36 = .ok (.getfield 102, 3) := by decide +kernel
theorem d_Md_seifert_39 : decode b_Md_seifert 39 = .ok (.iload_n 2, 1) := by decide +kernel
theorem d_Md_seifert_40 : decode b_Md_seifert 40 = .ok (.iaload, 1) := by decide +kernel
theorem d_Md_seifert_41 : decode b_Md_seifert 41 = .ok (.ifCond .le 6, 3) := by decide +kernel
theorem d_Md_seifert_47 : decode b_Md_seifert 47 = .ok (.iinc 1 1, 3) := by decide +kernel
theorem d_Md_seifert_50 : decode b_Md_seifert 50 = .ok (.iload_n 2, 1) := by decide +kernel
theorem d_Md_seifert_51 : decode b_Md_seifert 51 = .ok (.istore_n 3, 1) := by decide +kernel
theorem d_Md_seifert_44 : decode b_Md_seifert 44 = .ok (.goto 72, 3) := by decide +kernel
theorem d_Md_seifert_4 : decode b_Md_seifert 4 = .ok (.iload_n 2, 1) := by decide +kernel
theorem d_Md_seifert_5 : decode b_Md_seifert 5 = .ok (.aload_n 0, 1) := by decide +kernel
theorem d_Md_seifert_6 : decode b_Md_seifert 6 = .ok (.getfield 309, 3) := by decide +kernel
theorem d_Md_seifert_9 : decode b_Md_seifert 9 = .ok (.if_icmp .ge 16, 3) := by decide +kernel
theorem d_Md_seifert_25 : decode b_Md_seifert 25 = .ok (.iconst 0, 1) := by decide +kernel
theorem d_Md_seifert_26 : decode b_Md_seifert 26 = .ok (.istore_n 2, 1) := by decide +kernel
theorem d_Md_seifert_12 : decode b_Md_seifert 12 = .ok (.aload_n 0, 1) := by decide +kernel
theorem d_Md_seifert_13 : decode b_Md_seifert 13 = .ok (.getfield 102, 3) := by decide +kernel
theorem d_Md_seifert_16 : decode b_Md_seifert 16 = .ok (.iload_n 2, 1) := by decide +kernel
theorem d_Md_seifert_17 : decode b_Md_seifert 17 = .ok (.iconst 0, 1) := by decide +kernel
theorem d_Md_seifert_18 : decode b_Md_seifert 18 = .ok (.iastore, 1) := by decide +kernel
theorem d_Md_seifert_19 : decode b_Md_seifert 19 = .ok (.iinc 2 1, 3) := by decide +kernel
theorem d_Md_seifert_22 : decode b_Md_seifert 22 = .ok (.goto (-18), 3) := by decide +kernel
theorem d_Md_seifert_0 : decode b_Md_seifert 0 = .ok (.iconst 0, 1) := by decide +kernel
theorem d_Md_seifert_1 : decode b_Md_seifert 1 = .ok (.istore_n 1, 1) := by decide +kernel
theorem d_Md_seifert_2 : decode b_Md_seifert 2 = .ok (.iconst 0, 1) := by decide +kernel
theorem d_Md_seifert_3 : decode b_Md_seifert 3 = .ok (.istore_n 2, 1) := by decide +kernel
theorem d_Md_signs_15 : decode b_Md_signs 15 = .ok (.iload_n 1, 1) := by decide +kernel
theorem d_Md_signs_16 : decode b_Md_signs 16 = .ok (.aload_n 0, 1) := by decide +kernel
theorem d_Md_signs_17 : decode b_Md_signs 17 = .ok (.getfield 37, 3) := by decide +kernel
theorem d_Md_signs_20 : decode b_Md_signs 20 = .ok (.getfield 306, 3) := by decide +kernel
theorem d_Md_signs_23 : decode b_Md_signs 23 = .ok (.iload_n 2, 1) := by decide +kernel
theorem d_Md_signs_24 : decode b_Md_signs 24 = .ok (.iaload, 1) := by decide +kernel
theorem d_Md_signs_25 : decode b_Md_signs 25 = .ok (.iadd, 1) := by decide +kernel
theorem d_Md_signs_26 : decode b_Md_signs 26 = .ok (.istore_n 1, 1) := by decide +kernel
theorem d_Md_signs_27 : decode b_Md_signs 27 = .ok (.iinc 2 1, 3) := by decide +kernel
theorem d_Md_signs_30 : decode b_Md_signs 30 = .ok (.goto (-26), 3) := by decide +kernel
theorem d_Md_isAlternating_42 : decode b_Md_isAlternating 42 = .ok (.istore_n 1, 1) := by decide +kernel
theorem d_Md_isAlternating_43 : decode b_Md_isAlternating 43 = .ok (.iinc 2 1, 3) := by decide +kernel
theorem d_Md_isAlternating_46 : decode b_Md_isAlternating 46 = .ok (.goto (-42), 3) := by decide +kernel
theorem d_Md_isAlternating_41 : decode b_Md_isAlternating 41 = .ok (.iconst 0, 1) := by decide +kernel
theorem d_Md_isAlternating_4 : decode b_Md_isAlternating 4 = .ok (.iload_n 2, 1) := by decide +kernel
theorem d_Md_isAlternating_5 : decode b_Md_isAlternating 5 = .ok (.aload_n 0, 1) := by decide +kernel
theorem d_Md_isAlternating_6 : decode b_Md_isAlternating 6 = .ok (.getfield 309, 3) := by decide +kernel
theorem d_Md_isAlternating_9 : decode b_Md_isAlternating 9 = .ok (.if_icmp .ge 40, 3) := by decide +kernel
theorem d_Md_isAlternating_49 : decode b_Md_isAlternating 49 = .ok (.iload_n 1, 1) := by decide +kernel
theorem d_Md_isAlternating_50 : decode b_Md_isAlternating 50 = .ok (.ireturn, 1) := by decide +kernel
theorem d_Md_isAlternating_12 : decode b_Md_isAlternating 12 = .ok (.iload_n 1, 1) := by decide +kernel
