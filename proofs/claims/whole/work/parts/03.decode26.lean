theorem d_Md_findMatrix_84 : decode b_Md_findMatrix 84 = .ok (.iadd, 1) := by decide +kernel
theorem d_Md_findMatrix_85 : decode b_Md_findMatrix 85 = .ok (.iaload, 1) := by decide +kernel
theorem d_Md_findMatrix_86 : decode b_Md_findMatrix 86 = .ok (.iaload, 1) := by decide +kernel
theorem d_Md_findMatrix_87 : decode b_Md_findMatrix 87 = .ok (.istore 4, 2) := by decide +kernel
theorem d_Md_findMatrix_89 : decode b_Md_findMatrix 89 = .ok (.aload_n 0, 1) := by decide +kernel
theorem d_Md_findMatrix_90 : decode b_Md_findMatrix 90 = .ok (.getfield 114, 3) := by decide +kernel
theorem d_Md_findMatrix_93 : decode b_Md_findMatrix 93 = .ok (.bipush 20, 2) := by decide +kernel
theorem d_Md_findMatrix_95 : decode b_Md_findMatrix 95 = .ok (.iload_n 1, 1) := by decide +kernel
theorem d_Md_findMatrix_96 : decode b_Md_findMatrix 96 = .ok (.imul, 1) := by decide +kernel
theorem d_Md_findMatrix_97 : decode b_Md_findMatrix 97 = .ok (.aload_n 0, 1) := by decide +kernel
theorem d_Md_findMatrix_98 : decode b_Md_findMatrix 98 = .ok (.getfield 37, 3) := by decide +kernel
theorem d_Md_findMatrix_101 : decode b_Md_findMatrix 101 = .ok (.getfield 306, 3) := by decide +kernel
theorem d_Md_findMatrix_104 : decode b_Md_findMatrix 104 = .ok (.iload_n 1, 1) := by decide +kernel
theorem d_Md_findMatrix_105 : decode b_Md_findMatrix 105 = .ok (.iaload, 1) := by decide +kernel
theorem d_Md_findMatrix_106 : decode b_Md_findMatrix 106 = .ok (.iconst 1, 1) := by decide +kernel
theorem d_Md_findMatrix_107 : decode b_Md_findMatrix 107 = .ok (.if_icmp .ne 7, 3) := by decide +kernel
theorem d_Md_findMatrix_114 : decode b_Md_findMatrix 114 = .ok (.iload_n 3, 1) := by decide +kernel
theorem d_Md_findMatrix_110 : decode b_Md_findMatrix 110 = .ok (.iload_n 2, 1) := by decide +kernel
theorem d_Md_findMatrix_111 : decode b_Md_findMatrix 111 = .ok (.goto 4, 3) := by decide +kernel
theorem d_Md_findMatrix_2 : decode b_Md_findMatrix 2 = .ok (.iload_n 1, 1) := by decide +kernel
theorem d_Md_findMatrix_3 : decode b_Md_findMatrix 3 = .ok (.sipush 200, 3) := by decide +kernel
theorem d_Md_findMatrix_6 : decode b_Md_findMatrix 6 = .ok (.if_icmp .ge 23, 3) := by decide +kernel
theorem d_Md_findMatrix_29 : decode b_Md_findMatrix 29 = .ok (.iconst 0, 1) := by decide +kernel
theorem d_Md_findMatrix_30 : decode b_Md_findMatrix 30 = .ok (.istore_n 1, 1) := by decide +kernel
theorem d_Md_findMatrix_9 : decode b_Md_findMatrix 9 = .ok (.aload_n 0, 1) := by decide +kernel
theorem d_Md_findMatrix_10 : decode b_Md_findMatrix 10 = .ok (.getfield 111, 3) := by decide +kernel
theorem d_Md_findMatrix_13 : decode b_Md_findMatrix 13 = .ok (.iload_n 1, 1) := by decide +kernel
theorem d_Md_findMatrix_14 : decode b_Md_findMatrix 14 = .ok (.lconst 0, 1) := by decide +kernel
theorem d_Md_findMatrix_15 : decode b_Md_findMatrix 15 = .ok (.lastore, 1) := by decide +kernel
theorem d_Md_findMatrix_16 : decode b_Md_findMatrix 16 = .ok (.aload_n 0, 1) := by decide +kernel
theorem d_Md_findMatrix_17 : decode b_Md_findMatrix 17 = .ok (.getfield 114, 3) := by decide +kernel
theorem d_Md_findMatrix_20 : decode b_Md_findMatrix 20 = .ok (.iload_n 1, 1) := by decide +kernel
theorem d_Md_findMatrix_21 : decode b_Md_findMatrix 21 = .ok (.lconst 0, 1) := by decide +kernel
theorem d_Md_findMatrix_22 : decode b_Md_findMatrix 22 = .ok (.lastore, 1) := by decide +kernel
theorem d_Md_findMatrix_23 : decode b_Md_findMatrix 23 = .ok (.iinc 1 1, 3) := by decide +kernel
theorem d_Md_findMatrix_26 : decode b_Md_findMatrix 26 = .ok (.goto (-24), 3) := by decide +kernel
theorem d_Md_findMatrix_0 : decode b_Md_findMatrix 0 = .ok (.iconst 0, 1) := by decide +kernel
theorem d_Md_findMatrix_1 : decode b_Md_findMatrix 1 = .ok (.istore_n 1, 1) := by decide +kernel
theorem d_Md_addTimes_87 : decode b_Md_addTimes 87 = .ok (.iinc 6 1, 3) := by decide +kernel
theorem d_Md_addTimes_90 : decode b_Md_addTimes 90 = .ok (.goto (-87), 3) := by decide +kernel
theorem d_Md_addTimes_3 : decode b_Md_addTimes 3 = .ok (.iload 6, 2) := by decide +kernel
theorem d_Md_addTimes_5 : decode b_Md_addTimes 5 = .ok (.bipush 12, 2) := by decide +kernel
theorem d_Md_addTimes_7 : decode b_Md_addTimes 7 = .ok (.if_icmp .ge 86, 3) := by decide +kernel
theorem d_Md_addTimes_93 : decode b_Md_addTimes 93 = .ok (.return_, 1) := by decide +kernel
theorem d_Md_addTimes_10 : decode b_Md_addTimes 10 = .ok (.aload_n 0, 1) := by decide +kernel
theorem d_Md_addTimes_11 : decode b_Md_addTimes 11 = .ok (.getfield 117, 3) := by decide +kernel
theorem d_Md_addTimes_14 : decode b_Md_addTimes 14 = .ok (.bipush 12, 2) := by decide +kernel
theorem d_Md_addTimes_16 : decode b_Md_addTimes 16 = .ok (.iload_n 2, 1) := by decide +kernel
theorem d_Md_addTimes_17 : decode b_Md_addTimes 17 = .ok (.imul, 1) := by decide +kernel
theorem d_Md_addTimes_18 : decode b_Md_addTimes 18 = .ok (.iload 6, 2) := by decide +kernel
theorem d_Md_addTimes_20 : decode b_Md_addTimes 20 = .ok (.iadd, 1) := by decide +kernel
theorem d_Md_addTimes_21 : decode b_Md_addTimes 21 = .ok (.laload, 1) := by decide +kernel
theorem d_Md_addTimes_22 : decode b_Md_addTimes 22 = .ok (.lstore 7, 2) := by decide +kernel
theorem d_Md_addTimes_24 : decode b_Md_addTimes 24 = .ok (.aload_n 0, 1) := by decide +kernel
theorem d_Md_addTimes_25 : decode b_Md_addTimes 25 = .ok (.getfield 117, 3) := by decide +kernel
theorem d_Md_addTimes_28 : decode b_Md_addTimes 28 = .ok (.bipush 12, 2) := by decide +kernel
theorem d_Md_addTimes_30 : decode b_Md_addTimes 30 = .ok (.iload_n 1, 1) := by decide +kernel
theorem d_Md_addTimes_31 : decode b_Md_addTimes 31 = .ok (.imul, 1) := by decide +kernel
theorem d_Md_addTimes_32 : decode b_Md_addTimes 32 = .ok (.iload 6, 2) := by decide +kernel
theorem d_Md_addTimes_34 : decode b_Md_addTimes 34 = .ok (.iadd, 1) := by decide +kernel
theorem d_Md_addTimes_35 : decode b_Md_addTimes 35 = .ok (.dup2, 1) := by decide +kernel
theorem d_Md_addTimes_36 : decode b_Md_addTimes 36 = .ok (.laload, 1) := by decide +kernel
theorem d_Md_addTimes_37 : decode b_Md_addTimes 37 = .ok (.lload_n 3, 1) := by decide +kernel
theorem d_Md_addTimes_38 : decode b_Md_addTimes 38 = .ok (.aload_n 0, 1) := by decide +kernel
theorem d_Md_addTimes_39 : decode b_Md_addTimes 39 = .ok (.getfield 111, 3) := by decide +kernel
theorem d_Md_addTimes_42 : decode b_Md_addTimes 42 = .ok (.iload 5, 2) := by decide +kernel
theorem d_Md_addTimes_44 : decode b_Md_addTimes 44 = .ok (.laload, 1) := by decide +kernel
theorem d_Md_addTimes_45 : decode b_Md_addTimes 45 = .ok (.lmul, 1) := by decide +kernel
theorem d_Md_addTimes_46 : decode b_Md_addTimes 46 = .ok (.lload 7, 2) := by decide +kernel
theorem d_Md_addTimes_48 : decode b_Md_addTimes 48 = .ok (.lmul, 1) := by decide +kernel
theorem d_Md_addTimes_49 : decode b_Md_addTimes 49 = .ok (.ladd, 1) := by decide +kernel
theorem d_Md_addTimes_50 : decode b_Md_addTimes 50 = .ok (.lastore, 1) := by decide +kernel
theorem d_Md_addTimes_51 : decode b_Md_addTimes 51 = .ok (.iload 6, 2) := by decide +kernel
theorem d_Md_addTimes_53 : decode b_Md_addTimes 53 = .ok (.bipush 11, 2) := by decide +kernel
theorem d_Md_addTimes_55 : decode b_Md_addTimes 55 = .ok (.if_icmp .ge 32, 3) := by decide +kernel
theorem d_Md_addTimes_58 : decode b_Md_addTimes 58 = .ok (.aload_n 0, 1) := by decide +kernel
theorem d_Md_addTimes_59 : decode b_Md_addTimes 59 = .ok (.getfield 117, 3) := by decide +kernel
theorem d_Md_addTimes_62 : decode b_Md_addTimes 62 = .ok (.bipush 12, 2) := by decide +kernel
theorem d_Md_addTimes_64 : decode b_Md_addTimes 64 = .ok (.iload_n 1, 1) := by decide +kernel
theorem d_Md_addTimes_65 : decode b_Md_addTimes 65 = .ok (.imul, 1) := by decide +kernel
theorem d_Md_addTimes_66 : decode b_Md_addTimes 66 = .ok (.iload 6, 2) := by decide +kernel
theorem d_Md_addTimes_68 : decode b_Md_addTimes 68 = .ok (.iadd, 1) := by decide +kernel
theorem d_Md_addTimes_69 : decode b_Md_addTimes 69 = .ok (.iconst 1, 1) := by decide +kernel
theorem d_Md_addTimes_70 : decode b_Md_addTimes 70 = .ok (.iadd, 1) := by decide +kernel
theorem d_Md_addTimes_71 : decode b_Md_addTimes 71 = .ok (.dup2, 1) := by decide +kernel
theorem d_Md_addTimes_72 : decode b_Md_addTimes 72 = .ok (.laload, 1) := by decide +kernel
theorem d_Md_addTimes_73 : decode b_Md_addTimes 73 = .ok (.lload_n 3, 1) := by decide +kernel
theorem d_Md_addTimes_74 : decode b_Md_addTimes 74 = .ok (.aload_n 0, 1) := by decide +kernel
theorem d_Md_addTimes_75 : decode b_Md_addTimes 75 = .ok (.getfield 114, 3) := by decide +kernel
theorem d_Md_addTimes_78 : decode b_Md_addTimes 78 = .ok (.iload 5, 2) := by decide +kernel
theorem d_Md_addTimes_80 : decode b_Md_addTimes 80 = .ok (.laload, 1) := by decide +kernel
theorem d_Md_addTimes_81 : decode b_Md_addTimes 81 = .ok (.lmul, 1) := by decide +kernel
theorem d_Md_addTimes_82 : decode b_Md_addTimes 82 = .ok (.lload 7, 2) := by decide +kernel
theorem d_Md_addTimes_84 : decode b_Md_addTimes 84 = .ok (.lmul, 1) := by decide +kernel
theorem d_Md_addTimes_85 : decode b_Md_addTimes 85 = .ok (.ladd, 1) := by decide +kernel
theorem d_Md_addTimes_86 : decode b_Md_addTimes 86 = .ok (.lastore, 1) := by decide +kernel
theorem d_Md_addTimes_0 : decode b_Md_addTimes 0 = .ok (.iconst 0, 1) := by decide +kernel
theorem d_Md_addTimes_1 : decode b_Md_addTimes 1 = .ok (.istore 6, 2) := by decide +kernel
theorem d_Md_degree_3 : decode b_Md_degree 3 = .ok (.iload_n 1, 1) := by decide +kernel
theorem d_Md_degree_4 : decode b_Md_degree 4 = .ok (.ifCond .lt 17, 3) := by decide +kernel
theorem d_Md_degree_21 : decode b_Md_degree 21 = .ok (.iload_n 1, 1) := by decide +kernel
theorem d_Md_degree_22 : decode b_Md_degree 22 = .ok (.ireturn, 1) := by decide +kernel
theorem d_Md_degree_7 : decode b_Md_degree 7 = .ok (.aload_n 0, 1) := by decide +kernel
theorem d_Md_degree_8 : decode b_Md_degree 8 = .ok (.iload_n 1, 1) := by decide +kernel
theorem d_Md_degree_9 : decode b_Md_degree 9 = .ok (.laload, 1) := by decide +kernel
theorem d_Md_degree_10 : decode b_Md_degree 10 = .ok (.lconst 0, 1) := by decide +kernel
theorem d_Md_degree_11 : decode b_Md_degree 11 = .ok (.lcmp, 1) := by decide +kernel
theorem d_Md_degree_12 : decode b_Md_degree 12 = .ok (.ifCond .ne 9, 3) := by decide +kernel
theorem d_Md_degree_15 : decode b_Md_degree 15 = .ok (.iinc 1 (-1), 3) := by decide +kernel
theorem d_Md_degree_18 : decode b_Md_degree 18 = .ok (.goto (-15), 3) := by decide +kernel
theorem d_Md_degree_0 : decode b_Md_degree 0 = .ok (.bipush 15, 2) := by decide +kernel
theorem d_Md_degree_2 : decode b_Md_degree 2 = .ok (.istore_n 1, 1) := by decide +kernel
theorem d_Md_common_28 : decode b_Md_common 28 = .ok (.lload 6, 2) := by decide +kernel
theorem d_Md_common_30 : decode b_Md_common 30 = .ok (.lconst 0, 1) := by decide +kernel
theorem d_Md_common_31 : decode b_Md_common 31 = .ok (.lcmp, 1) := by decide +kernel
theorem d_Md_common_32 : decode b_Md_common 32 = .ok (.ifCond .eq 21, 3) := by decide +kernel
theorem d_Md_common_53 : decode b_Md_common 53 = .ok (.lload 4, 2) := by decide +kernel
theorem d_Md_common_55 : decode b_Md_common 55 = .ok (.lreturn, 1) := by decide +kernel
theorem d_Md_common_35 : decode b_Md_common 35 = .ok (.lload 4, 2) := by decide +kernel
theorem d_Md_common_37 : decode b_Md_common 37 = .ok (.lload 6, 2) := by decide +kernel
theorem d_Md_common_39 : decode b_Md_common 39 = .ok (.lrem, 1) := by decide +kernel
theorem d_Md_common_40 : decode b_Md_common 40 = .ok (.lstore 8, 2) := by decide +kernel
theorem d_Md_common_42 : decode b_Md_common 42 = .ok (.lload 6, 2) := by decide +kernel
theorem d_Md_common_44 : decode b_Md_common 44 = .ok (.lstore 4, 2) := by decide +kernel
theorem d_Md_common_46 : decode b_Md_common 46 = .ok (.lload 8, 2) := by decide +kernel
theorem d_Md_common_48 : decode b_Md_common 48 = .ok (.lstore 6, 2) := by decide +kernel
theorem d_Md_common_50 : decode b_Md_common 50 = .ok (.goto (-22), 3) := by decide +kernel
theorem d_Md_common_26 : decode b_Md_common 26 = .ok (.lstore 6, 2) := by decide +kernel
theorem d_Md_common_12 : decode b_Md_common 12 = .ok (.lstore 4, 2) := by decide +kernel
theorem d_Md_common_14 : decode b_Md_common 14 = .ok (.lload_n 2, 1) := by decide +kernel
theorem d_Md_common_15 : decode b_Md_common 15 = .ok (.lconst 0, 1) := by decide +kernel
theorem d_Md_common_16 : decode b_Md_common 16 = .ok (.lcmp, 1) := by decide +kernel
theorem d_Md_common_17 : decode b_Md_common 17 = .ok (.ifCond .ge 8, 3) := by decide +kernel
theorem d_Md_common_25 : decode b_Md_common 25 = .ok (.lload_n 2, 1) := by decide +kernel
theorem d_Md_common_20 : decode b_Md_common 20 = .ok (.lload_n 2, 1) := by decide +kernel
theorem d_Md_common_21 : decode b_Md_common 21 = .ok (.lneg, 1) := by decide +kernel
theorem d_Md_common_22 : decode b_Md_common 22 = .ok (.goto 4, 3) := by decide +kernel
theorem d_Md_common_0 : decode b_Md_common 0 = .ok (.lload_n 0, 1) := by decide +kernel
theorem d_Md_common_1 : decode b_Md_common 1 = .ok (.lconst 0, 1) := by decide +kernel
theorem d_Md_common_2 : decode b_Md_common 2 = .ok (.lcmp, 1) := by decide +kernel
theorem d_Md_common_3 : decode b_Md_common 3 = .ok (.ifCond .ge 8, 3) := by decide +kernel
theorem d_Md_common_11 : decode b_Md_common 11 = .ok (.lload_n 0, 1) := by decide +kernel
theorem d_Md_common_6 : decode b_Md_common 6 = .ok (.lload_n 0, 1) := by decide +kernel
theorem d_Md_common_7 : decode b_Md_common 7 = .ok (.lneg, 1) := by decide +kernel
theorem d_Md_common_8 : decode b_Md_common 8 = .ok (.goto 4, 3) := by decide +kernel
theorem d_Md_divide_2 : decode b_Md_divide 2 = .ok (.iload_n 3, 1) := by decide +kernel
theorem d_Md_divide_3 : decode b_Md_divide 3 = .ok (.bipush 16, 2) := by decide +kernel
theorem d_Md_divide_5 : decode b_Md_divide 5 = .ok (.if_icmp .ge 17, 3) := by decide +kernel
theorem d_Md_divide_22 : decode b_Md_divide 22 = .ok (.return_, 1) := by decide +kernel
theorem d_Md_divide_8 : decode b_Md_divide 8 = .ok (.aload_n 0, 1) := by decide +kernel
theorem d_Md_divide_9 : decode b_Md_divide 9 = .ok (.iload_n 3, 1) := by decide +kernel
theorem d_Md_divide_10 : decode b_Md_divide 10 = .ok (.aload_n 0, 1) := by decide +kernel
theorem d_Md_divide_11 : decode b_Md_divide 11 = .ok (.iload_n 3, 1) := by decide +kernel
theorem d_Md_divide_12 : decode b_Md_divide 12 = .ok (.laload, 1) := by decide +kernel
theorem d_Md_divide_13 : decode b_Md_divide 13 = .ok (.lload_n 1, 1) := by decide +kernel
theorem d_Md_divide_14 : decode b_Md_divide 14 = .ok (.ldiv, 1) := by decide +kernel
theorem d_Md_divide_15 : decode b_Md_divide 15 = .ok (.lastore, 1) := by decide +kernel
theorem d_Md_divide_16 : decode b_Md_divide 16 = .ok (.iinc 3 1, 3) := by decide +kernel
theorem d_Md_divide_19 : decode b_Md_divide 19 = .ok (.goto (-17), 3) := by decide +kernel
theorem d_Md_divide_0 : decode b_Md_divide 0 = .ok (.iconst 0, 1) := by decide +kernel
theorem d_Md_divide_1 : decode b_Md_divide 1 = .ok (.istore_n 3, 1) := by decide +kernel
theorem d_Md_agrees_158 : decode b_Md_agrees 158 = .ok (.lstore 8, 2) := by decide +kernel
theorem d_Md_agrees_160 : decode b_Md_agrees 160 = .ok (.lload_n 2, 1) := by decide +kernel
theorem d_Md_agrees_161 : decode b_Md_agrees 161 = .ok (.lload 8, 2) := by decide +kernel
theorem d_Md_agrees_163 : decode b_Md_agrees 163 = .ok (.bipush 32, 2) := by decide +kernel
theorem d_Md_agrees_165 : decode b_Md_agrees 165 = .ok (.lshr, 1) := by decide +kernel
theorem d_Md_agrees_166 : decode b_Md_agrees 166 = .ok (.lcmp, 1) := by decide +kernel
theorem d_Md_agrees_167 : decode b_Md_agrees 167 = .ok (.ifCond .ne 19, 3) := by decide +kernel
theorem d_Md_agrees_186 : decode b_Md_agrees 186 = .ok (.iconst 0, 1) := by decide +kernel
theorem d_Md_agrees_187 : decode b_Md_agrees 187 = .ok (.ireturn, 1) := by decide +kernel
theorem d_Md_agrees_170 : decode b_Md_agrees 170 = .ok (.lload 4, 2) := by decide +kernel
theorem d_Md_agrees_172 : decode b_Md_agrees 172 = .ok (.lload 8, 2) := by decide +kernel
theorem d_Md_agrees_174 : decode b_Md_agrees 174 = .ok (.ldc2_w 600, 3) := by decide +kernel
theorem d_Md_agrees_177 : decode b_Md_agrees 177 = .ok (.land, 1) := by decide +kernel
theorem d_Md_agrees_178 : decode b_Md_agrees 178 = .ok (.lcmp, 1) := by decide +kernel
theorem d_Md_agrees_179 : decode b_Md_agrees 179 = .ok (.ifCond .ne 7, 3) := by decide +kernel
theorem d_Md_agrees_182 : decode b_Md_agrees 182 = .ok (.iconst 1, 1) := by decide +kernel
theorem d_Md_agrees_183 : decode b_Md_agrees 183 = .ok (.goto 4, 3) := by decide +kernel
theorem d_Md_agrees_143 : decode b_Md_agrees 143 = .ok (.lconst 0, 1) := by decide +kernel
theorem d_Md_agrees_144 : decode b_Md_agrees 144 = .ok (.goto 14, 3) := by decide +kernel
theorem d_Md_agrees_103 : decode b_Md_agrees 103 = .ok (.iinc 8 2, 3) := by decide +kernel
theorem d_Md_agrees_106 : decode b_Md_agrees 106 = .ok (.goto (-78), 3) := by decide +kernel
theorem d_Md_agrees_28 : decode b_Md_agrees 28 = .ok (.iload 8, 2) := by decide +kernel
theorem d_Md_agrees_30 : decode b_Md_agrees 30 = .ok (.aload_n 0, 1) := by decide +kernel
theorem d_Md_agrees_31 : decode b_Md_agrees 31 = .ok (.invokevirtual 545, 3) := by decide +kernel
theorem d_Md_agrees_34 : decode b_Md_agrees 34 = .ok (.if_icmp .ge 75, 3) := by decide +kernel
theorem d_Md_agrees_109 : decode b_Md_agrees 109 = .ok (.lload_n 2, 1) := by decide +kernel
theorem d_Md_agrees_110 : decode b_Md_agrees 110 = .ok (.lload 4, 2) := by decide +kernel
theorem d_Md_agrees_112 : decode b_Md_agrees 112 = .ok (.bipush 32, 2) := by decide +kernel
theorem d_Md_agrees_114 : decode b_Md_agrees 114 = .ok (.lshr, 1) := by decide +kernel
theorem d_Md_agrees_115 : decode b_Md_agrees 115 = .ok (.ladd, 1) := by decide +kernel
theorem d_Md_agrees_116 : decode b_Md_agrees 116 = .ok (.lstore_n 2, 1) := by decide +kernel
theorem d_Md_agrees_117 : decode b_Md_agrees 117 = .ok (.lload 4, 2) := by decide +kernel
theorem d_Md_agrees_119 : decode b_Md_agrees 119 = .ok (.ldc2_w 600, 3) := by decide +kernel
theorem d_Md_agrees_122 : decode b_Md_agrees 122 = .ok (.land, 1) := by decide +kernel
theorem d_Md_agrees_123 : decode b_Md_agrees 123 = .ok (.lstore 4, 2) := by decide +kernel
theorem d_Md_agrees_125 : decode b_Md_agrees 125 = .ok (.lload 6, 2) := by decide +kernel
theorem d_Md_agrees_127 : decode b_Md_agrees 127 = .ok (.ldc2_w 602, 3) := by decide +kernel
theorem d_Md_agrees_130 : decode b_Md_agrees 130 = .ok (.lcmp, 1) := by decide +kernel
theorem d_Md_agrees_131 : decode b_Md_agrees 131 = .ok (.ifCond .lt 12, 3) := by decide +kernel
