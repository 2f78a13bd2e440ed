theorem d_Md_isAlternating_13 : decode b_Md_isAlternating 13 = .ok (.ifCond .eq 28, 3) := by decide +kernel
theorem d_Md_isAlternating_16 : decode b_Md_isAlternating 16 = .ok (.aload_n 0, 1) := by decide +kernel
theorem d_Md_isAlternating_17 : decode b_Md_isAlternating 17 = .ok (.getfield 69, 3) := by decide +kernel
theorem d_Md_isAlternating_20 : decode b_Md_isAlternating 20 = .ok (.iload_n 2, 1) := by decide +kernel
theorem d_Md_isAlternating_21 : decode b_Md_isAlternating 21 = .ok (.iaload, 1) := by decide +kernel
theorem d_Md_isAlternating_22 : decode b_Md_isAlternating 22 = .ok (.invokestatic 370, 3) := by decide +kernel
theorem d_Md_isAlternating_25 : decode b_Md_isAlternating 25 = .ok (.aload_n 0, 1) := by decide +kernel
theorem d_Md_isAlternating_26 : decode b_Md_isAlternating 26 = .ok (.getfield 72, 3) := by decide +kernel
theorem d_Md_isAlternating_29 : decode b_Md_isAlternating 29 = .ok (.iload_n 2, 1) := by decide +kernel
theorem d_Md_isAlternating_30 : decode b_Md_isAlternating 30 = .ok (.iaload, 1) := by decide +kernel
theorem d_Md_isAlternating_31 : decode b_Md_isAlternating 31 = .ok (.invokestatic 370, 3) := by decide +kernel
theorem d_Md_isAlternating_34 : decode b_Md_isAlternating 34 = .ok (.if_icmp .eq 7, 3) := by decide +kernel
theorem d_Md_isAlternating_37 : decode b_Md_isAlternating 37 = .ok (.iconst 1, 1) := by decide +kernel
theorem d_Md_isAlternating_38 : decode b_Md_isAlternating 38 = .ok (.goto 4, 3) := by decide +kernel
theorem d_Md_isAlternating_0 : decode b_Md_isAlternating 0 = .ok (.iconst 1, 1) := by decide +kernel
theorem d_Md_isAlternating_1 : decode b_Md_isAlternating 1 = .ok (.istore_n 1, 1) := by decide +kernel
theorem d_Md_isAlternating_2 : decode b_Md_isAlternating 2 = .ok (.iconst 0, 1) := by decide +kernel
theorem d_Md_isAlternating_3 : decode b_Md_isAlternating 3 = .ok (.istore_n 2, 1) := by decide +kernel
theorem d_Md_clearPoly_2 : decode b_Md_clearPoly 2 = .ok (.iload_n 1, 1) := by decide +kernel
theorem d_Md_clearPoly_3 : decode b_Md_clearPoly 3 = .ok (.sipush 200, 3) := by decide +kernel
theorem d_Md_clearPoly_6 : decode b_Md_clearPoly 6 = .ok (.if_icmp .gt 16, 3) := by decide +kernel
theorem d_Md_clearPoly_22 : decode b_Md_clearPoly 22 = .ok (.return_, 1) := by decide +kernel
theorem d_Md_clearPoly_9 : decode b_Md_clearPoly 9 = .ok (.aload_n 0, 1) := by decide +kernel
theorem d_Md_clearPoly_10 : decode b_Md_clearPoly 10 = .ok (.getfield 96, 3) := by decide +kernel
theorem d_Md_clearPoly_13 : decode b_Md_clearPoly 13 = .ok (.iload_n 1, 1) := by decide +kernel
theorem d_Md_clearPoly_14 : decode b_Md_clearPoly 14 = .ok (.lconst 0, 1) := by decide +kernel
theorem d_Md_clearPoly_15 : decode b_Md_clearPoly 15 = .ok (.lastore, 1) := by decide +kernel
theorem d_Md_clearPoly_16 : decode b_Md_clearPoly 16 = .ok (.iinc 1 1, 3) := by decide +kernel
theorem d_Md_clearPoly_19 : decode b_Md_clearPoly 19 = .ok (.goto (-17), 3) := by decide +kernel
theorem d_Md_clearPoly_0 : decode b_Md_clearPoly 0 = .ok (.iconst 0, 1) := by decide +kernel
theorem d_Md_clearPoly_1 : decode b_Md_clearPoly 1 = .ok (.istore_n 1, 1) := by decide +kernel
theorem d_Md_rootOf_2 : decode b_Md_rootOf 2 = .ok (.aload_n 0, 1) := by decide +kernel
theorem d_Md_rootOf_3 : decode b_Md_rootOf 3 = .ok (.getfield 102, 3) := by decide +kernel
theorem d_Md_rootOf_6 : decode b_Md_rootOf 6 = .ok (.iload_n 2, 1) := by decide +kernel
theorem d_Md_rootOf_7 : decode b_Md_rootOf 7 = .ok (.iaload, 1) := by decide +kernel
theorem d_Md_rootOf_8 : decode b_Md_rootOf 8 = .ok (.iload_n 2, 1) := by decide +kernel
theorem d_Md_rootOf_9 : decode b_Md_rootOf 9 = .ok (.if_icmp .eq 13, 3) := by decide +kernel
theorem d_Md_rootOf_22 : decode b_Md_rootOf 22 = .ok (.iload_n 2, 1) := by decide +kernel
theorem d_Md_rootOf_23 : decode b_Md_rootOf 23 = .ok (.ireturn, 1) := by decide +kernel
theorem d_Md_rootOf_12 : decode b_Md_rootOf 12 = .ok (.aload_n 0, 1) := by decide +kernel
theorem d_Md_rootOf_13 : decode b_Md_rootOf 13 = .ok (.getfield 102, 3) := by decide +kernel
theorem d_Md_rootOf_16 : decode b_Md_rootOf 16 = .ok (.iload_n 2, 1) := by decide +kernel
theorem d_Md_rootOf_17 : decode b_Md_rootOf 17 = .ok (.iaload, 1) := by decide +kernel
theorem d_Md_rootOf_18 : decode b_Md_rootOf 18 = .ok (.istore_n 2, 1) := by decide +kernel
theorem d_Md_rootOf_19 : decode b_Md_rootOf 19 = .ok (.goto (-17), 3) := by decide +kernel
theorem d_Md_rootOf_0 : decode b_Md_rootOf 0 = .ok (.iload_n 1, 1) := by decide +kernel
theorem d_Md_rootOf_1 : decode b_Md_rootOf 1 = .ok (.istore_n 2, 1) := by decide +kernel
theorem d_Md_addPower_17 : decode b_Md_addPower 17 = .ok (.iload 7, 2) := by decide +kernel
theorem d_Md_addPower_19 : decode b_Md_addPower 19 = .ok (.iload_n 2, 1) := by decide +kernel
theorem d_Md_addPower_20 : decode b_Md_addPower 20 = .ok (.if_icmp .gt 69, 3) := by decide +kernel
theorem d_Md_addPower_89 : decode b_Md_addPower 89 = .ok (.return_, 1) := by decide +kernel
theorem d_Md_addPower_23 : decode b_Md_addPower 23 = .ok (.aload_n 0, 1) := by decide +kernel
theorem d_Md_addPower_24 : decode b_Md_addPower 24 = .ok (.getfield 96, 3) := by decide +kernel
theorem d_Md_addPower_27 : decode b_Md_addPower 27 = .ok (.bipush 100, 2) := by decide +kernel
theorem d_Md_addPower_29 : decode b_Md_addPower 29 = .ok (.iload_n 1, 1) := by decide +kernel
theorem d_Md_addPower_30 : decode b_Md_addPower 30 = .ok (.iadd, 1) := by decide +kernel
theorem d_Md_addPower_31 : decode b_Md_addPower 31 = .ok (.iconst 2, 1) := by decide +kernel
theorem d_Md_addPower_32 : decode b_Md_addPower 32 = .ok (.iload_n 2, 1) := by decide +kernel
theorem d_Md_addPower_33 : decode b_Md_addPower 33 = .ok (.imul, 1) := by decide +kernel
theorem d_Md_addPower_34 : decode b_Md_addPower 34 = .ok (.iadd, 1) := by decide +kernel
theorem d_Md_addPower_35 : decode b_Md_addPower 35 = .ok (.iconst 4, 1) := by decide +kernel
theorem d_Md_addPower_36 : decode b_Md_addPower 36 = .ok (.iload 7, 2) := by decide +kernel
theorem d_Md_addPower_38 : decode b_Md_addPower 38 = .ok (.imul, 1) := by decide +kernel
theorem d_Md_addPower_39 : decode b_Md_addPower 39 = .ok (.isub, 1) := by decide +kernel
theorem d_Md_addPower_40 : decode b_Md_addPower 40 = .ok (.dup2, 1) := by decide +kernel
theorem d_Md_addPower_41 : decode b_Md_addPower 41 = .ok (.laload, 1) := by decide +kernel
theorem d_Md_addPower_42 : decode b_Md_addPower 42 = .ok (.lload 5, 2) := by decide +kernel
theorem d_Md_addPower_44 : decode b_Md_addPower 44 = .ok (.ladd, 1) := by decide +kernel
theorem d_Md_addPower_45 : decode b_Md_addPower 45 = .ok (.lastore, 1) := by decide +kernel
theorem d_Md_addPower_46 : decode b_Md_addPower 46 = .ok (.lload 5, 2) := by decide +kernel
theorem d_Md_addPower_48 : decode b_Md_addPower 48 = .ok (.iload 7, 2) := by decide +kernel
theorem d_Md_addPower_50 : decode b_Md_addPower 50 = .ok (.iconst 1, 1) := by decide +kernel
theorem d_Md_addPower_51 : decode b_Md_addPower 51 = .ok (.iadd, 1) := by decide +kernel
theorem d_Md_addPower_52 : decode b_Md_addPower 52 = .ok (.i2l, 1) := by decide +kernel
theorem d_Md_addPower_53 : decode b_Md_addPower 53 = .ok (.ldiv, 1) := by decide +kernel
theorem d_Md_addPower_54 : decode b_Md_addPower 54 = .ok (.iload_n 2, 1) := by decide +kernel
theorem d_Md_addPower_55 : decode b_Md_addPower 55 = .ok (.iload 7, 2) := by decide +kernel
theorem d_Md_addPower_57 : decode b_Md_addPower 57 = .ok (.isub, 1) := by decide +kernel
theorem d_Md_addPower_58 : decode b_Md_addPower 58 = .ok (.i2l, 1) := by decide +kernel
theorem d_Md_addPower_59 : decode b_Md_addPower 59 = .ok (.lmul, 1) := by decide +kernel
theorem d_Md_addPower_60 : decode b_Md_addPower 60 = .ok (.lload 5, 2) := by decide +kernel
theorem d_Md_addPower_62 : decode b_Md_addPower 62 = .ok (.iload 7, 2) := by decide +kernel
theorem d_Md_addPower_64 : decode b_Md_addPower 64 = .ok (.iconst 1, 1) := by decide +kernel
theorem d_Md_addPower_65 : decode b_Md_addPower 65 = .ok (.iadd, 1) := by decide +kernel
theorem d_Md_addPower_66 : decode b_Md_addPower 66 = .ok (.i2l, 1) := by decide +kernel
theorem d_Md_addPower_67 : decode b_Md_addPower 67 = .ok (.lrem, 1) := by decide +kernel
theorem d_Md_addPower_68 : decode b_Md_addPower 68 = .ok (.iload_n 2, 1) := by decide +kernel
theorem d_Md_addPower_69 : decode b_Md_addPower 69 = .ok (.iload 7, 2) := by decide +kernel
theorem d_Md_addPower_71 : decode b_Md_addPower 71 = .ok (.isub, 1) := by decide +kernel
theorem d_Md_addPower_72 : decode b_Md_addPower 72 = .ok (.i2l, 1) := by decide +kernel
theorem d_Md_addPower_73 : decode b_Md_addPower 73 = .ok (.lmul, 1) := by decide +kernel
theorem d_Md_addPower_74 : decode b_Md_addPower 74 = .ok (.iload 7, 2) := by decide +kernel
theorem d_Md_addPower_76 : decode b_Md_addPower 76 = .ok (.iconst 1, 1) := by decide +kernel
theorem d_Md_addPower_77 : decode b_Md_addPower 77 = .ok (.iadd, 1) := by decide +kernel
theorem d_Md_addPower_78 : decode b_Md_addPower 78 = .ok (.i2l, 1) := by decide +kernel
theorem d_Md_addPower_79 : decode b_Md_addPower 79 = .ok (.ldiv, 1) := by decide +kernel
theorem d_Md_addPower_80 : decode b_Md_addPower 80 = .ok (.ladd, 1) := by decide +kernel
theorem d_Md_addPower_81 : decode b_Md_addPower 81 = .ok (.lstore 5, 2) := by decide +kernel
theorem d_Md_addPower_83 : decode b_Md_addPower 83 = .ok (.iinc 7 1, 3) := by decide +kernel
theorem d_Md_addPower_86 : decode b_Md_addPower 86 = .ok (.goto (-69), 3) := by decide +kernel
theorem d_Md_addPower_12 : decode b_Md_addPower 12 = .ok (.lstore 5, 2) := by decide +kernel
theorem d_Md_addPower_14 : decode b_Md_addPower 14 = .ok (.iconst 0, 1) := by decide +kernel
theorem d_Md_addPower_15 : decode b_Md_addPower 15 = .ok (.istore 7, 2) := by decide +kernel
theorem d_Md_addPower_0 : decode b_Md_addPower 0 = .ok (.iload_n 2, 1) := by decide +kernel
theorem d_Md_addPower_1 : decode b_Md_addPower 1 = .ok (.iconst 2, 1) := by decide +kernel
theorem d_Md_addPower_2 : decode b_Md_addPower 2 = .ok (.irem, 1) := by decide +kernel
theorem d_Md_addPower_3 : decode b_Md_addPower 3 = .ok (.ifCond .ne 7, 3) := by decide +kernel
theorem d_Md_addPower_10 : decode b_Md_addPower 10 = .ok (.lload_n 3, 1) := by decide +kernel
theorem d_Md_addPower_11 : decode b_Md_addPower 11 = .ok (.lneg, 1) := by decide +kernel
theorem d_Md_addPower_6 : decode b_Md_addPower 6 = .ok (.lload_n 3, 1) := by decide +kernel
theorem d_Md_addPower_7 : decode b_Md_addPower 7 = .ok (.goto 5, 3) := by decide +kernel
theorem d_Md_findMatrix_147 : decode b_Md_findMatrix 147 = .ok (.iadd, 1) := by decide +kernel
theorem d_Md_findMatrix_148 : decode b_Md_findMatrix 148 = .ok (.dup2, 1) := by decide +kernel
theorem d_Md_findMatrix_149 : decode b_Md_findMatrix 149 = .ok (.laload, 1) := by decide +kernel
theorem d_Md_findMatrix_150 : decode b_Md_findMatrix 150 = .ok (.lconst 1, 1) := by decide +kernel
theorem d_Md_findMatrix_151 : decode b_Md_findMatrix 151 = .ok (.lsub, 1) := by decide +kernel
theorem d_Md_findMatrix_152 : decode b_Md_findMatrix 152 = .ok (.lastore, 1) := by decide +kernel
theorem d_Md_findMatrix_153 : decode b_Md_findMatrix 153 = .ok (.aload_n 0, 1) := by decide +kernel
theorem d_Md_findMatrix_154 : decode b_Md_findMatrix 154 = .ok (.getfield 111, 3) := by decide +kernel
theorem d_Md_findMatrix_157 : decode b_Md_findMatrix 157 = .ok (.bipush 20, 2) := by decide +kernel
theorem d_Md_findMatrix_159 : decode b_Md_findMatrix 159 = .ok (.iload_n 1, 1) := by decide +kernel
theorem d_Md_findMatrix_160 : decode b_Md_findMatrix 160 = .ok (.imul, 1) := by decide +kernel
theorem d_Md_findMatrix_161 : decode b_Md_findMatrix 161 = .ok (.iload 4, 2) := by decide +kernel
theorem d_Md_findMatrix_163 : decode b_Md_findMatrix 163 = .ok (.iadd, 1) := by decide +kernel
theorem d_Md_findMatrix_164 : decode b_Md_findMatrix 164 = .ok (.dup2, 1) := by decide +kernel
theorem d_Md_findMatrix_165 : decode b_Md_findMatrix 165 = .ok (.laload, 1) := by decide +kernel
theorem d_Md_findMatrix_166 : decode b_Md_findMatrix 166 = .ok (.lconst 1, 1) := by decide +kernel
theorem d_Md_findMatrix_167 : decode b_Md_findMatrix 167 = .ok (.ladd, 1) := by decide +kernel
theorem d_Md_findMatrix_168 : decode b_Md_findMatrix 168 = .ok (.lastore, 1) := by decide +kernel
theorem d_Md_findMatrix_169 : decode b_Md_findMatrix 169 = .ok (.aload_n 0, 1) := by decide +kernel
theorem d_Md_findMatrix_170 : decode b_Md_findMatrix 170 = .ok (.getfield 114, 3) := by decide +kernel
theorem d_Md_findMatrix_173 : decode b_Md_findMatrix 173 = .ok (.bipush 20, 2) := by decide +kernel
theorem d_Md_findMatrix_175 : decode b_Md_findMatrix 175 = .ok (.iload_n 1, 1) := by decide +kernel
theorem d_Md_findMatrix_176 : decode b_Md_findMatrix 176 = .ok (.imul, 1) := by decide +kernel
theorem d_Md_findMatrix_177 : decode b_Md_findMatrix 177 = .ok (.iload 4, 2) := by decide +kernel
theorem d_Md_findMatrix_179 : decode b_Md_findMatrix 179 = .ok (.iadd, 1) := by decide +kernel
theorem d_Md_findMatrix_180 : decode b_Md_findMatrix 180 = .ok (.dup2, 1) := by decide +kernel
theorem d_Md_findMatrix_181 : decode b_Md_findMatrix 181 = .ok (.laload, 1) := by decide +kernel
theorem d_Md_findMatrix_182 : decode b_Md_findMatrix 182 = .ok (.lconst 1, 1) := by decide +kernel
theorem d_Md_findMatrix_183 : decode b_Md_findMatrix 183 = .ok (.lsub, 1) := by decide +kernel
theorem d_Md_findMatrix_184 : decode b_Md_findMatrix 184 = .ok (.lastore, 1) := by decide +kernel
theorem d_Md_findMatrix_185 : decode b_Md_findMatrix 185 = .ok (.iinc 1 1, 3) := by decide +kernel
theorem d_Md_findMatrix_188 : decode b_Md_findMatrix 188 = .ok (.goto (-157), 3) := by decide +kernel
theorem d_Md_findMatrix_115 : decode b_Md_findMatrix 115 = .ok (.iadd, 1) := by decide +kernel
theorem d_Md_findMatrix_116 : decode b_Md_findMatrix 116 = .ok (.dup2, 1) := by decide +kernel
theorem d_Md_findMatrix_117 : decode b_Md_findMatrix 117 = .ok (.laload, 1) := by decide +kernel
theorem d_Md_findMatrix_118 : decode b_Md_findMatrix 118 = .ok (.lconst 1, 1) := by decide +kernel
theorem d_Md_findMatrix_119 : decode b_Md_findMatrix 119 = .ok (.ladd, 1) := by decide +kernel
theorem d_Md_findMatrix_120 : decode b_Md_findMatrix 120 = .ok (.lastore, 1) := by decide +kernel
theorem d_Md_findMatrix_121 : decode b_Md_findMatrix 121 = .ok (.aload_n 0, 1) := by decide +kernel
theorem d_Md_findMatrix_122 : decode b_Md_findMatrix 122 = .ok (.getfield 111, 3) := by decide +kernel
theorem d_Md_findMatrix_125 : decode b_Md_findMatrix 125 = .ok (.bipush 20, 2) := by decide +kernel
theorem d_Md_findMatrix_127 : decode b_Md_findMatrix 127 = .ok (.iload_n 1, 1) := by decide +kernel
theorem d_Md_findMatrix_128 : decode b_Md_findMatrix 128 = .ok (.imul, 1) := by decide +kernel
theorem d_Md_findMatrix_129 : decode b_Md_findMatrix 129 = .ok (.aload_n 0, 1) := by decide +kernel
theorem d_Md_findMatrix_130 : decode b_Md_findMatrix 130 = .ok (.getfield 37, 3) := by decide +kernel
theorem d_Md_findMatrix_133 : decode b_Md_findMatrix 133 = .ok (.getfield 306, 3) := by decide +kernel
theorem d_Md_findMatrix_136 : decode b_Md_findMatrix 136 = .ok (.iload_n 1, 1) := by decide +kernel
theorem d_Md_findMatrix_137 : decode b_Md_findMatrix 137 = .ok (.iaload, 1) := by decide +kernel
theorem d_Md_findMatrix_138 : decode b_Md_findMatrix 138 = .ok (.iconst 1, 1) := by decide +kernel
theorem d_Md_findMatrix_139 : decode b_Md_findMatrix 139 = .ok (.if_icmp .ne 7, 3) := by decide +kernel
theorem d_Md_findMatrix_146 : decode b_Md_findMatrix 146 = .ok (.iload_n 2, 1) := by decide +kernel
theorem d_Md_findMatrix_142 : decode b_Md_findMatrix 142 = .ok (.iload_n 3, 1) := by decide +kernel
theorem d_Md_findMatrix_143 : decode b_Md_findMatrix 143 = .ok (.goto 4, 3) := by decide +kernel
theorem d_Md_findMatrix_31 : decode b_Md_findMatrix 31 = .ok (.iload_n 1, 1) := by decide +kernel
theorem d_Md_findMatrix_32 : decode b_Md_findMatrix 32 = .ok (.aload_n 0, 1) := by decide +kernel
theorem d_Md_findMatrix_33 : decode b_Md_findMatrix 33 = .ok (.getfield 37, 3) := by decide +kernel
theorem d_Md_findMatrix_36 : decode b_Md_findMatrix 36 = .ok (.getfield 312, 3) := by decide +kernel
theorem d_Md_findMatrix_39 : decode b_Md_findMatrix 39 = .ok (.if_icmp .ge 152, 3) := by decide +kernel
theorem d_Md_findMatrix_191 : decode b_Md_findMatrix 191 = .ok (.return_, 1) := by decide +kernel
theorem d_Md_findMatrix_42 : decode b_Md_findMatrix 42 = .ok (.aload_n 0, 1) := by decide +kernel
theorem d_Md_findMatrix_43 : decode b_Md_findMatrix 43 = .ok (.getfield 108, 3) := by decide +kernel
theorem d_Md_findMatrix_46 : decode b_Md_findMatrix 46 = .ok (.aload_n 0, 1) := by decide +kernel
theorem d_Md_findMatrix_47 : decode b_Md_findMatrix 47 = .ok (.getfield 81, 3) := by decide +kernel
theorem d_Md_findMatrix_50 : decode b_Md_findMatrix 50 = .ok (.iconst 4, 1) := by decide +kernel
theorem d_Md_findMatrix_51 : decode b_Md_findMatrix 51 = .ok (.iload_n 1, 1) := by decide +kernel
theorem d_Md_findMatrix_52 : decode b_Md_findMatrix 52 = .ok (.imul, 1) := by decide +kernel
theorem d_Md_findMatrix_53 : decode b_Md_findMatrix 53 = .ok (.iaload, 1) := by decide +kernel
theorem d_Md_findMatrix_54 : decode b_Md_findMatrix 54 = .ok (.iaload, 1) := by decide +kernel
theorem d_Md_findMatrix_55 : decode b_Md_findMatrix 55 = .ok (.istore_n 2, 1) := by decide +kernel
theorem d_Md_findMatrix_56 : decode b_Md_findMatrix 56 = .ok (.aload_n 0, 1) := by decide +kernel
theorem d_Md_findMatrix_57 : decode b_Md_findMatrix 57 = .ok (.getfield 108, 3) := by decide +kernel
theorem d_Md_findMatrix_60 : decode b_Md_findMatrix 60 = .ok (.aload_n 0, 1) := by decide +kernel
theorem d_Md_findMatrix_61 : decode b_Md_findMatrix 61 = .ok (.getfield 81, 3) := by decide +kernel
theorem d_Md_findMatrix_64 : decode b_Md_findMatrix 64 = .ok (.iconst 4, 1) := by decide +kernel
theorem d_Md_findMatrix_65 : decode b_Md_findMatrix 65 = .ok (.iload_n 1, 1) := by decide +kernel
theorem d_Md_findMatrix_66 : decode b_Md_findMatrix 66 = .ok (.imul, 1) := by decide +kernel
theorem d_Md_findMatrix_67 : decode b_Md_findMatrix 67 = .ok (.iconst 2, 1) := by decide +kernel
theorem d_Md_findMatrix_68 : decode b_Md_findMatrix 68 = .ok (.iadd, 1) := by decide +kernel
theorem d_Md_findMatrix_69 : decode b_Md_findMatrix 69 = .ok (.iaload, 1) := by decide +kernel
theorem d_Md_findMatrix_70 : decode b_Md_findMatrix 70 = .ok (.iaload, 1) := by decide +kernel
theorem d_Md_findMatrix_71 : decode b_Md_findMatrix 71 = .ok (.istore_n 3, 1) := by decide +kernel
theorem d_Md_findMatrix_72 : decode b_Md_findMatrix 72 = .ok (.aload_n 0, 1) := by decide +kernel
theorem d_Md_findMatrix_73 : decode b_Md_findMatrix 73 = .ok (.getfield 108, 3) := by decide +kernel
theorem d_Md_findMatrix_76 : decode b_Md_findMatrix 76 = .ok (.aload_n 0, 1) := by decide +kernel
theorem d_Md_findMatrix_77 : decode b_Md_findMatrix 77 = .ok (.getfield 81, 3) := by decide +kernel
theorem d_Md_findMatrix_80 : decode b_Md_findMatrix 80 = .ok (.iconst 4, 1) := by decide +kernel
theorem d_Md_findMatrix_81 : decode b_Md_findMatrix 81 = .ok (.iload_n 1, 1) := by decide +kernel
theorem d_Md_findMatrix_82 : decode b_Md_findMatrix 82 = .ok (.imul, 1) := by decide +kernel
theorem d_Md_findMatrix_83 : decode b_Md_findMatrix 83 = .ok (.iconst 1, 1) := by decide +kernel
