theorem d_Md_addPower_66 : decode b_Md_addPower 66 = .ok (.i2l, 1) := by decide +kernel
theorem d_Md_addPower_67 : decode b_Md_addPower 67 = .ok (.lrem, 1) := by decide +kernel
theorem d_Md_addPower_68 : decode b_Md_addPower 68 = .ok (.iload_n 2, 1) := by decide +kernel
theorem d_Md_addPower_69 : decode b_Md_addPower 69 = .ok (.iload 7, 2) := by decide +kernel
theorem d_Md_addPower_71 : decode b_Md_addPower 71 = .ok (.isub, 1) := by decide +kernel
theorem d_Md_addPower_72 : decode b_Md_addPower 72 = .ok (.i2l, 1) := by decide +kernel
theorem d_Md_addPower_73 : decode b_Md_addPower 73 = .ok (.lmul, 1) := by decide +kernel
theorem d_Md_addPower_74 : decode b_Md_addPower 74 = .ok (.iload 7, 2) := by decide +kernel
theorem d_Md_addPower_76 : decode b_Md_addPower 76 = .ok (.iconst 1, 1) := by decide +kernel
theorem d_Md_addPower_77 : decode b_Md_addPower 77 = .ok (.iadd, 1) := by decide +kernel
theorem d_Md_addPower_78 : decode b_Md_addPower 78 = .ok (.i2l, 1) := by decide +kernel
theorem d_Md_addPower_79 : decode b_Md_addPower 79 = .ok (.ldiv, 1) := by decide +kernel
theorem d_Md_addPower_80 : decode b_Md_addPower 80 = .ok (.ladd, 1) := by decide +kernel
theorem d_Md_addPower_81 : decode b_Md_addPower 81 = .ok (.lstore 5, 2) := by decide +kernel
theorem d_Md_addPower_83 : decode b_Md_addPower 83 = .ok (.iinc 7 1, 3) := by decide +kernel
theorem d_Md_addPower_86 : decode b_Md_addPower 86 = .ok (.goto (-69), 3) := by decide +kernel
theorem d_Md_addPower_89 : decode b_Md_addPower 89 = .ok (.return_, 1) := by decide +kernel
theorem d_Md_addTimes_0 : decode b_Md_addTimes 0 = .ok (.iconst 0, 1) := by decide +kernel
theorem d_Md_addTimes_1 : decode b_Md_addTimes 1 = .ok (.istore 6, 2) := by decide +kernel
theorem d_Md_addTimes_3 : decode b_Md_addTimes 3 = .ok (.iload 6, 2) := by decide +kernel
theorem d_Md_addTimes_5 : decode b_Md_addTimes 5 = .ok (.bipush 12, 2) := by decide +kernel
theorem d_Md_addTimes_7 : decode b_Md_addTimes 7 = .ok (.if_icmp .ge 86, 3) := by decide +kernel
theorem d_Md_addTimes_10 : decode b_Md_addTimes 10 = .ok (.aload_n 0, 1) := by decide +kernel
theorem d_Md_addTimes_11 : decode b_Md_addTimes 11 = .ok (.getfield 117, 3) := by decide +kernel
theorem d_Md_addTimes_14 : decode b_Md_addTimes 14 = .ok (.bipush 12, 2) := by decide +kernel
theorem d_Md_addTimes_16 : decode b_Md_addTimes 16 = .ok (.iload_n 2, 1) := by decide +kernel
theorem d_Md_addTimes_17 : decode b_Md_addTimes 17 = .ok (.imul, 1) := by decide +kernel
theorem d_Md_addTimes_18 : decode b_Md_addTimes 18 = .ok (.iload 6, 2) := by decide +kernel
theorem d_Md_addTimes_20 : decode b_Md_addTimes 20 = .ok (.iadd, 1) := by decide +kernel
theorem d_Md_addTimes_21 : decode b_Md_addTimes 21 = .ok (.laload, 1) := by decide +kernel
theorem d_Md_addTimes_22 : decode b_Md_addTimes 22 = .ok (.lstore 7, 2) := by decide +kernel
theorem d_Md_addTimes_24 : decode b_Md_addTimes 24 = .ok (.aload_n 0, 1) := by decide +kernel
theorem d_Md_addTimes_25 : decode b_Md_addTimes 25 = .ok (.getfield 117, 3) := by decide +kernel
theorem d_Md_addTimes_28 : decode b_Md_addTimes 28 = .ok (.bipush 12, 2) := by decide +kernel
theorem d_Md_addTimes_30 : decode b_Md_addTimes 30 = .ok (.iload_n 1, 1) := by decide +kernel
theorem d_Md_addTimes_31 : decode b_Md_addTimes 31 = .ok (.imul, 1) := by decide +kernel
theorem d_Md_addTimes_32 : decode b_Md_addTimes 32 = .ok (.iload 6, 2) := by decide +kernel
theorem d_Md_addTimes_34 : decode b_Md_addTimes 34 = .ok (.iadd, 1) := by decide +kernel
theorem d_Md_addTimes_35 : decode b_Md_addTimes 35 = .ok (.dup2, 1) := by decide +kernel
theorem d_Md_addTimes_36 : decode b_Md_addTimes 36 = .ok (.laload, 1) := by decide +kernel
theorem d_Md_addTimes_37 : decode b_Md_addTimes 37 = .ok (.lload_n 3, 1) := by decide +kernel
theorem d_Md_addTimes_38 : decode b_Md_addTimes 38 = .ok (.aload_n 0, 1) := by decide +kernel
theorem d_Md_addTimes_39 : decode b_Md_addTimes 39 = .ok (.getfield 111, 3) := by decide +kernel
theorem d_Md_addTimes_42 : decode b_Md_addTimes 42 = .ok (.iload 5, 2) := by decide +kernel
theorem d_Md_addTimes_44 : decode b_Md_addTimes 44 = .ok (.laload, 1) := by decide +kernel
theorem d_Md_addTimes_45 : decode b_Md_addTimes 45 = .ok (.lmul, 1) := by decide +kernel
theorem d_Md_addTimes_46 : decode b_Md_addTimes 46 = .ok (.lload 7, 2) := by decide +kernel
theorem d_Md_addTimes_48 : decode b_Md_addTimes 48 = .ok (.lmul, 1) := by decide +kernel
theorem d_Md_addTimes_49 : decode b_Md_addTimes 49 = .ok (.ladd, 1) := by decide +kernel
theorem d_Md_addTimes_50 : decode b_Md_addTimes 50 = .ok (.lastore, 1) := by decide +kernel
theorem d_Md_addTimes_51 : decode b_Md_addTimes 51 = .ok (.iload 6, 2) := by decide +kernel
theorem d_Md_addTimes_53 : decode b_Md_addTimes 53 = .ok (.bipush 11, 2) := by decide +kernel
theorem d_Md_addTimes_55 : decode b_Md_addTimes 55 = .ok (.if_icmp .ge 32, 3) := by decide +kernel
theorem d_Md_addTimes_58 : decode b_Md_addTimes 58 = .ok (.aload_n 0, 1) := by decide +kernel
theorem d_Md_addTimes_59 : decode b_Md_addTimes 59 = .ok (.getfield 117, 3) := by decide +kernel
theorem d_Md_addTimes_62 : decode b_Md_addTimes 62 = .ok (.bipush 12, 2) := by decide +kernel
theorem d_Md_addTimes_64 : decode b_Md_addTimes 64 = .ok (.iload_n 1, 1) := by decide +kernel
theorem d_Md_addTimes_65 : decode b_Md_addTimes 65 = .ok (.imul, 1) := by decide +kernel
theorem d_Md_addTimes_66 : decode b_Md_addTimes 66 = .ok (.iload 6, 2) := by decide +kernel
theorem d_Md_addTimes_68 : decode b_Md_addTimes 68 = .ok (.iadd, 1) := by decide +kernel
theorem d_Md_addTimes_69 : decode b_Md_addTimes 69 = .ok (.iconst 1, 1) := by decide +kernel
theorem d_Md_addTimes_70 : decode b_Md_addTimes 70 = .ok (.iadd, 1) := by decide +kernel
theorem d_Md_addTimes_71 : decode b_Md_addTimes 71 = .ok (.dup2, 1) := by decide +kernel
theorem d_Md_addTimes_72 : decode b_Md_addTimes 72 = .ok (.laload, 1) := by decide +kernel
theorem d_Md_addTimes_73 : decode b_Md_addTimes 73 = .ok (.lload_n 3, 1) := by decide +kernel
theorem d_Md_addTimes_74 : decode b_Md_addTimes 74 = .ok (.aload_n 0, 1) := by decide +kernel
theorem d_Md_addTimes_75 : decode b_Md_addTimes 75 = .ok (.getfield 114, 3) := by decide +kernel
theorem d_Md_addTimes_78 : decode b_Md_addTimes 78 = .ok (.iload 5, 2) := by decide +kernel
theorem d_Md_addTimes_80 : decode b_Md_addTimes 80 = .ok (.laload, 1) := by decide +kernel
theorem d_Md_addTimes_81 : decode b_Md_addTimes 81 = .ok (.lmul, 1) := by decide +kernel
theorem d_Md_addTimes_82 : decode b_Md_addTimes 82 = .ok (.lload 7, 2) := by decide +kernel
theorem d_Md_addTimes_84 : decode b_Md_addTimes 84 = .ok (.lmul, 1) := by decide +kernel
theorem d_Md_addTimes_85 : decode b_Md_addTimes 85 = .ok (.ladd, 1) := by decide +kernel
theorem d_Md_addTimes_86 : decode b_Md_addTimes 86 = .ok (.lastore, 1) := by decide +kernel
theorem d_Md_addTimes_87 : decode b_Md_addTimes 87 = .ok (.iinc 6 1, 3) := by decide +kernel
theorem d_Md_addTimes_90 : decode b_Md_addTimes 90 = .ok (.goto (-87), 3) := by decide +kernel
theorem d_Md_addTimes_93 : decode b_Md_addTimes 93 = .ok (.return_, 1) := by decide +kernel
theorem d_Md_agrees_0 : decode b_Md_agrees 0 = .ok (.lconst 0, 1) := by decide +kernel
theorem d_Md_agrees_1 : decode b_Md_agrees 1 = .ok (.lstore_n 2, 1) := by decide +kernel
theorem d_Md_agrees_2 : decode b_Md_agrees 2 = .ok (.lconst 0, 1) := by decide +kernel
theorem d_Md_agrees_3 : decode b_Md_agrees 3 = .ok (.lstore 4, 2) := by decide +kernel
theorem d_Md_agrees_5 : decode b_Md_agrees 5 = .ok (.aload_n 0, 1) := by decide +kernel
theorem d_Md_agrees_6 : decode b_Md_agrees 6 = .ok (.getfield 30, 3) := by decide +kernel
theorem d_Md_agrees_9 : decode b_Md_agrees 9 = .ok (.aload_n 0, 1) := by decide +kernel
theorem d_Md_agrees_10 : decode b_Md_agrees 10 = .ok (.getfield 27, 3) := by decide +kernel
theorem d_Md_agrees_13 : decode b_Md_agrees 13 = .ok (.aload_n 0, 1) := by decide +kernel
theorem d_Md_agrees_14 : decode b_Md_agrees 14 = .ok (.getfield 290, 3) := by decide +kernel
theorem d_Md_agrees_17 : decode b_Md_agrees 17 = .ok (.iaload, 1) := by decide +kernel
theorem d_Md_agrees_18 : decode b_Md_agrees 18 = .ok (.iload_n 1, 1) := by decide +kernel
theorem d_Md_agrees_19 : decode b_Md_agrees 19 = .ok (.iadd, 1) := by decide +kernel
theorem d_Md_agrees_20 : decode b_Md_agrees 20 = .ok (.iconst 1, 1) := by decide +kernel
theorem d_Md_agrees_21 : decode b_Md_agrees 21 = .ok (.iadd, 1) := by decide +kernel
theorem d_Md_agrees_22 : decode b_Md_agrees 22 = .ok (.laload, 1) := by decide +kernel
theorem d_Md_agrees_23 : decode b_Md_agrees 23 = .ok (.lstore 6, 2) := by decide +kernel
theorem d_Md_agrees_25 : decode b_Md_agrees 25 = .ok (.iconst 0, 1) := by decide +kernel
theorem d_Md_agrees_26 : decode b_Md_agrees 26 = .ok (.istore 8, 2) := by decide +kernel
theorem d_Md_agrees_28 : decode b_Md_agrees 28 = .ok (.iload 8, 2) := by decide +kernel
theorem d_Md_agrees_30 : decode b_Md_agrees 30 = .ok (.aload_n 0, 1) := by decide +kernel
theorem d_Md_agrees_31 : decode b_Md_agrees 31 = .ok (.invokevirtual 545, 3) := by decide +kernel
theorem d_Md_agrees_34 : decode b_Md_agrees 34 = .ok (.if_icmp .ge 75, 3) := by decide +kernel
theorem d_Md_agrees_37 : decode b_Md_agrees 37 = .ok (.aload_n 0, 1) := by decide +kernel
theorem d_Md_agrees_38 : decode b_Md_agrees 38 = .ok (.getfield 30, 3) := by decide +kernel
theorem d_Md_agrees_41 : decode b_Md_agrees 41 = .ok (.aload_n 0, 1) := by decide +kernel
theorem d_Md_agrees_42 : decode b_Md_agrees 42 = .ok (.getfield 27, 3) := by decide +kernel
theorem d_Md_agrees_45 : decode b_Md_agrees 45 = .ok (.aload_n 0, 1) := by decide +kernel
theorem d_Md_agrees_46 : decode b_Md_agrees 46 = .ok (.getfield 290, 3) := by decide +kernel
theorem d_Md_agrees_49 : decode b_Md_agrees 49 = .ok (.iaload, 1) := by decide +kernel
theorem d_Md_agrees_50 : decode b_Md_agrees 50 = .ok (.iload 8, 2) := by decide +kernel
theorem d_Md_agrees_52 : decode b_Md_agrees 52 = .ok (.iadd, 1) := by decide +kernel
theorem d_Md_agrees_53 : decode b_Md_agrees 53 = .ok (.iconst 1, 1) := by decide +kernel
theorem d_Md_agrees_54 : decode b_Md_agrees 54 = .ok (.iadd, 1) := by decide +kernel
theorem d_Md_agrees_55 : decode b_Md_agrees 55 = .ok (.laload, 1) := by decide +kernel
theorem d_Md_agrees_56 : decode b_Md_agrees 56 = .ok (.lload 6, 2) := by decide +kernel
theorem d_Md_agrees_58 : decode b_Md_agrees 58 = .ok (.lcmp, 1) := by decide +kernel
theorem d_Md_agrees_59 : decode b_Md_agrees 59 = .ok (.ifCond .eq 6, 3) := by decide +kernel
theorem d_Md_agrees_62 : decode b_Md_agrees 62 = .ok (.goto 41, 3) := by decide +kernel
theorem d_Md_agrees_65 : decode b_Md_agrees 65 = .ok (.aload_n 0, 1) := by decide +kernel
theorem d_Md_agrees_66 : decode b_Md_agrees 66 = .ok (.getfield 30, 3) := by decide +kernel
theorem d_Md_agrees_69 : decode b_Md_agrees 69 = .ok (.aload_n 0, 1) := by decide +kernel
theorem d_Md_agrees_70 : decode b_Md_agrees 70 = .ok (.getfield 27, 3) := by decide +kernel
theorem d_Md_agrees_73 : decode b_Md_agrees 73 = .ok (.aload_n 0, 1) := by decide +kernel
theorem d_Md_agrees_74 : decode b_Md_agrees 74 = .ok (.getfield 290, 3) := by decide +kernel
theorem d_Md_agrees_77 : decode b_Md_agrees 77 = .ok (.iaload, 1) := by decide +kernel
theorem d_Md_agrees_78 : decode b_Md_agrees 78 = .ok (.iload 8, 2) := by decide +kernel
theorem d_Md_agrees_80 : decode b_Md_agrees 80 = .ok (.iadd, 1) := by decide +kernel
theorem d_Md_agrees_81 : decode b_Md_agrees 81 = .ok (.laload, 1) := by decide +kernel
theorem d_Md_agrees_82 : decode b_Md_agrees 82 = .ok (.lstore 9, 2) := by decide +kernel
theorem d_Md_agrees_84 : decode b_Md_agrees 84 = .ok (.lload_n 2, 1) := by decide +kernel
theorem d_Md_agrees_85 : decode b_Md_agrees 85 = .ok (.lload 9, 2) := by decide +kernel
theorem d_Md_agrees_87 : decode b_Md_agrees 87 = .ok (.bipush 32, 2) := by decide +kernel
theorem d_Md_agrees_89 : decode b_Md_agrees 89 = .ok (.lshr, 1) := by decide +kernel
theorem d_Md_agrees_90 : decode b_Md_agrees 90 = .ok (.ladd, 1) := by decide +kernel
theorem d_Md_agrees_91 : decode b_Md_agrees 91 = .ok (.lstore_n 2, 1) := by decide +kernel
theorem d_Md_agrees_92 : decode b_Md_agrees 92 = .ok (.lload 4, 2) := by decide +kernel
theorem d_Md_agrees_94 : decode b_Md_agrees 94 = .ok (.lload 9, 2) := by decide +kernel
theorem d_Md_agrees_96 : decode b_Md_agrees 96 = .ok (.ldc2_w 600, 3) := by decide +kernel
theorem d_Md_agrees_99 : decode b_Md_agrees 99 = .ok (.land, 1) := by decide +kernel
theorem d_Md_agrees_100 : decode b_Md_agrees 100 = .ok (.ladd, 1) := by decide +kernel
theorem d_Md_agrees_101 : decode b_Md_agrees 101 = .ok (.lstore 4, 2) := by decide +kernel
theorem d_Md_agrees_103 : decode b_Md_agrees 103 = .ok (.iinc 8 2, 3) := by decide +kernel
theorem d_Md_agrees_106 : decode b_Md_agrees 106 = .ok (.goto (-78), 3) := by decide +kernel
theorem d_Md_agrees_109 : decode b_Md_agrees 109 = .ok (.lload_n 2, 1) := by decide +kernel
theorem d_Md_agrees_110 : decode b_Md_agrees 110 = .ok (.lload 4, 2) := by decide +kernel
theorem d_Md_agrees_112 : decode b_Md_agrees 112 = .ok (.bipush 32, 2) := by decide +kernel
theorem d_Md_agrees_114 : decode b_Md_agrees 114 = .ok (.lshr, 1) := by decide +kernel
theorem d_Md_agrees_115 : decode b_Md_agrees 115 = .ok (.ladd, 1) := by decide +kernel
theorem d_Md_agrees_116 : decode b_Md_agrees 116 = .ok (.lstore_n 2, 1) := by decide +kernel
theorem d_Md_agrees_117 : decode b_Md_agrees 117 = .ok (.lload 4, 2) := by decide +kernel
theorem d_Md_agrees_119 : decode b_Md_agrees 119 = .ok (.ldc2_w 600, 3) := by decide +kernel
theorem d_Md_agrees_122 : decode b_Md_agrees 122 = .ok (.land, 1) := by decide +kernel
theorem d_Md_agrees_123 : decode b_Md_agrees 123 = .ok (.lstore 4, 2) := by decide +kernel
theorem d_Md_agrees_125 : decode b_Md_agrees 125 = .ok (.lload 6, 2) := by decide +kernel
theorem d_Md_agrees_127 : decode b_Md_agrees 127 = .ok (.ldc2_w 602, 3) := by decide +kernel
theorem d_Md_agrees_130 : decode b_Md_agrees 130 = .ok (.lcmp, 1) := by decide +kernel
theorem d_Md_agrees_131 : decode b_Md_agrees 131 = .ok (.ifCond .lt 12, 3) := by decide +kernel
theorem d_Md_agrees_134 : decode b_Md_agrees 134 = .ok (.lload 6, 2) := by decide +kernel
theorem d_Md_agrees_136 : decode b_Md_agrees 136 = .ok (.ldc2_w 604, 3) := by decide +kernel
theorem d_Md_agrees_139 : decode b_Md_agrees 139 = .ok (.lcmp, 1) := by decide +kernel
theorem d_Md_agrees_140 : decode b_Md_agrees 140 = .ok (.ifCond .le 7, 3) := by decide +kernel
theorem d_Md_agrees_143 : decode b_Md_agrees 143 = .ok (.lconst 0, 1) := by decide +kernel
theorem d_Md_agrees_144 : decode b_Md_agrees 144 = .ok (.goto 14, 3) := by decide +kernel
theorem d_Md_agrees_147 : decode b_Md_agrees 147 = .ok (.aload_n 0, 1) := by decide +kernel
theorem d_Md_agrees_148 : decode b_Md_agrees 148 = .ok (.getfield 96, 3) := by decide +kernel
theorem d_Md_agrees_151 : decode b_Md_agrees 151 = .ok (.bipush 100, 2) := by decide +kernel
theorem d_Md_agrees_153 : decode b_Md_agrees 153 = .ok (.lload 6, 2) := by decide +kernel
theorem d_Md_agrees_155 : decode b_Md_agrees 155 = .ok (.l2i, 1) := by decide +kernel
theorem d_Md_agrees_156 : decode b_Md_agrees 156 = .ok (.iadd, 1) := by decide +kernel
theorem d_Md_agrees_157 : decode b_Md_agrees 157 = .ok (.laload, 1) := by decide +kernel
theorem d_Md_agrees_158 : decode b_Md_agrees 158 = .ok (.lstore 8, 2) := by decide +kernel
theorem d_Md_agrees_160 : decode b_Md_agrees 160 = .ok (.lload_n 2, 1) := by decide +kernel
theorem d_Md_agrees_161 : decode b_Md_agrees 161 = .ok (.lload 8, 2) := by decide +kernel
theorem d_Md_agrees_163 : decode b_Md_agrees 163 = .ok (.bipush 32, 2) := by decide +kernel
theorem d_Md_agrees_165 : decode b_Md_agrees 165 = .ok (.lshr, 1) := by decide +kernel
theorem d_Md_agrees_166 : decode b_Md_agrees 166 = .ok (.lcmp, 1) := by decide +kernel
theorem d_Md_agrees_167 : decode b_Md_agrees 167 = .ok (.ifCond .ne 19, 3) := by decide +kernel
theorem d_Md_agrees_170 : decode b_Md_agrees 170 = .ok (.lload 4, 2) := by decide +kernel
theorem d_Md_agrees_172 : decode b_Md_agrees 172 = .ok (.lload 8, 2) := by decide +kernel
theorem d_Md_agrees_174 : decode b_Md_agrees 174 = .ok (.ldc2_w 600, 3) := by decide +kernel
theorem d_Md_agrees_177 : decode b_Md_agrees 177 = .ok (.land, 1) := by decide +kernel
theorem d_Md_agrees_178 : decode b_Md_agrees 178 = .ok (.lcmp, 1) := by decide +kernel
theorem d_Md_agrees_179 : decode b_Md_agrees 179 = .ok (.ifCond .ne 7, 3) := by decide +kernel
theorem d_Md_agrees_182 : decode b_Md_agrees 182 = .ok (.iconst 1, 1) := by decide +kernel
theorem d_Md_agrees_183 : decode b_Md_agrees 183 = .ok (.goto 4, 3) := by decide +kernel
theorem d_Md_agrees_186 : decode b_Md_agrees 186 = .ok (.iconst 0, 1) := by decide +kernel
theorem d_Md_agrees_187 : decode b_Md_agrees 187 = .ok (.ireturn, 1) := by decide +kernel
theorem d_Md_alexander_0 : decode b_Md_alexander 0 = .ok (.aload_n 0, 1) := by decide +kernel
theorem d_Md_alexander_1 : decode b_Md_alexander 1 = .ok (.invokevirtual 444, 3) := by decide +kernel
theorem d_Md_alexander_4 : decode b_Md_alexander 4 = .ok (.aload_n 0, 1) := by decide +kernel
theorem d_Md_alexander_5 : decode b_Md_alexander 5 = .ok (.invokevirtual 496, 3) := by decide +kernel
theorem d_Md_alexander_8 : decode b_Md_alexander 8 = .ok (.aload_n 0, 1) := by decide +kernel
theorem d_Md_alexander_9 : decode b_Md_alexander 9 = .ok (.getfield 459, 3) := by decide +kernel
theorem d_Md_alexander_12 : decode b_Md_alexander 12 = .ok (.iconst 1, 1) := by decide +kernel
theorem d_Md_alexander_13 : decode b_Md_alexander 13 = .ok (.isub, 1) := by decide +kernel
theorem d_Md_alexander_14 : decode b_Md_alexander 14 = .ok (.istore_n 1, 1) := by decide +kernel
theorem d_Md_alexander_15 : decode b_Md_alexander 15 = .ok (.iload_n 1, 1) := by decide +kernel
theorem d_Md_alexander_16 : decode b_Md_alexander 16 = .ok (.ifCond .lt 14, 3) := by decide +kernel
theorem d_Md_alexander_19 : decode b_Md_alexander 19 = .ok (.iload_n 1, 1) := by decide +kernel
theorem d_Md_alexander_20 : decode b_Md_alexander 20 = .ok (.aload_n 0, 1) := by decide +kernel
theorem d_Md_alexander_21 : decode b_Md_alexander 21 = .ok (.getfield 37, 3) := by decide +kernel
theorem d_Md_alexander_24 : decode b_Md_alexander 24 = .ok (.getfield 312, 3) := by decide +kernel
