theorem d_Md_lift_55 : decode b_Md_lift 55 = .ok (.invokevirtual 357, 3) := by decide +kernel
theorem d_Md_lift_58 : decode b_Md_lift 58 = .ok (.aload_n 0, 1) := by decide +kernel
theorem d_Md_lift_59 : decode b_Md_lift 59 = .ok (.iload_n 1, 1) := by decide +kernel
theorem d_Md_lift_60 : decode b_Md_lift 60 = .ok (.invokevirtual 363, 3) := by decide +kernel
theorem d_Md_lift_63 : decode b_Md_lift 63 = .ok (.return_, 1) := by decide +kernel
theorem d_Md_listFaces_0 : decode b_Md_listFaces 0 = .ok (.aload_n 0, 1) := by decide +kernel
theorem d_Md_listFaces_1 : decode b_Md_listFaces 1 = .ok (.bipush 35, 2) := by decide +kernel
theorem d_Md_listFaces_3 : decode b_Md_listFaces 3 = .ok (.invokevirtual 509, 3) := by decide +kernel
theorem d_Md_listFaces_6 : decode b_Md_listFaces 6 = .ok (.aload_n 0, 1) := by decide +kernel
theorem d_Md_listFaces_7 : decode b_Md_listFaces 7 = .ok (.aload_n 0, 1) := by decide +kernel
theorem d_Md_listFaces_8 : decode b_Md_listFaces 8 = .ok (.getfield 331, 3) := by decide +kernel
theorem d_Md_listFaces_11 : decode b_Md_listFaces 11 = .ok (.i2l, 1) := by decide +kernel
theorem d_Md_listFaces_12 : decode b_Md_listFaces 12 = .ok (.invokevirtual 536, 3) := by decide +kernel
theorem d_Md_listFaces_15 : decode b_Md_listFaces 15 = .ok (.aload_n 0, 1) := by decide +kernel
theorem d_Md_listFaces_16 : decode b_Md_listFaces 16 = .ok (.bipush 10, 2) := by decide +kernel
theorem d_Md_listFaces_18 : decode b_Md_listFaces 18 = .ok (.invokevirtual 509, 3) := by decide +kernel
theorem d_Md_listFaces_21 : decode b_Md_listFaces 21 = .ok (.iconst 0, 1) := by decide +kernel
theorem d_Md_listFaces_22 : decode b_Md_listFaces 22 = .ok (.istore_n 1, 1) := by decide +kernel
theorem d_Md_listFaces_23 : decode b_Md_listFaces 23 = .ok (.iload_n 1, 1) := by decide +kernel
theorem d_Md_listFaces_24 : decode b_Md_listFaces 24 = .ok (.aload_n 0, 1) := by decide +kernel
theorem d_Md_listFaces_25 : decode b_Md_listFaces 25 = .ok (.getfield 331, 3) := by decide +kernel
theorem d_Md_listFaces_28 : decode b_Md_listFaces 28 = .ok (.if_icmp .ge 92, 3) := by decide +kernel
theorem d_Md_listFaces_31 : decode b_Md_listFaces 31 = .ok (.aload_n 0, 1) := by decide +kernel
theorem d_Md_listFaces_32 : decode b_Md_listFaces 32 = .ok (.bipush 35, 2) := by decide +kernel
theorem d_Md_listFaces_34 : decode b_Md_listFaces 34 = .ok (.invokevirtual 509, 3) := by decide +kernel
theorem d_Md_listFaces_37 : decode b_Md_listFaces 37 = .ok (.aload_n 0, 1) := by decide +kernel
theorem d_Md_listFaces_38 : decode b_Md_listFaces 38 = .ok (.iload_n 1, 1) := by decide +kernel
theorem d_Md_listFaces_39 : decode b_Md_listFaces 39 = .ok (.i2l, 1) := by decide +kernel
theorem d_Md_listFaces_40 : decode b_Md_listFaces 40 = .ok (.invokevirtual 536, 3) := by decide +kernel
theorem d_Md_listFaces_43 : decode b_Md_listFaces 43 = .ok (.aload_n 0, 1) := by decide +kernel
theorem d_Md_listFaces_44 : decode b_Md_listFaces 44 = .ok (.aload_n 0, 1) := by decide +kernel
theorem d_Md_listFaces_45 : decode b_Md_listFaces 45 = .ok (.iload_n 1, 1) := by decide +kernel
theorem d_Md_listFaces_46 : decode b_Md_listFaces 46 = .ok (.invokevirtual 577, 3) := by decide +kernel
theorem d_Md_listFaces_49 : decode b_Md_listFaces 49 = .ok (.i2l, 1) := by decide +kernel
theorem d_Md_listFaces_50 : decode b_Md_listFaces 50 = .ok (.invokevirtual 536, 3) := by decide +kernel
theorem d_Md_listFaces_53 : decode b_Md_listFaces 53 = .ok (.aload_n 0, 1) := by decide +kernel
theorem d_Md_listFaces_54 : decode b_Md_listFaces 54 = .ok (.getfield 87, 3) := by decide +kernel
theorem d_Md_listFaces_57 : decode b_Md_listFaces 57 = .ok (.iload_n 1, 1) := by decide +kernel
theorem d_Md_listFaces_58 : decode b_Md_listFaces 58 = .ok (.iaload, 1) := by decide +kernel
theorem d_Md_listFaces_59 : decode b_Md_listFaces 59 = .ok (.istore_n 2, 1) := by decide +kernel
theorem d_Md_listFaces_60 : decode b_Md_listFaces 60 = .ok (.aload_n 0, 1) := by decide +kernel
theorem d_Md_listFaces_61 : decode b_Md_listFaces 61 = .ok (.iload_n 2, 1) := by decide +kernel
theorem d_Md_listFaces_62 : decode b_Md_listFaces 62 = .ok (.iconst 1, 1) := by decide +kernel
theorem d_Md_listFaces_63 : decode b_Md_listFaces 63 = .ok (.iand, 1) := by decide +kernel
theorem d_Md_listFaces_64 : decode b_Md_listFaces 64 = .ok (.ifCond .ne 15, 3) := by decide +kernel
theorem d_Md_listFaces_67 : decode b_Md_listFaces 67 = .ok (.aload_n 0, 1) := by decide +kernel
theorem d_Md_listFaces_68 : decode b_Md_listFaces 68 = .ok (.getfield 66, 3) := by decide +kernel
theorem d_Md_listFaces_71 : decode b_Md_listFaces 71 = .ok (.iload_n 2, 1) := by decide +kernel
theorem d_Md_listFaces_72 : decode b_Md_listFaces 72 = .ok (.iconst 1, 1) := by decide +kernel
theorem d_Md_listFaces_73 : decode b_Md_listFaces 73 = .ok (.ishr, 1) := by decide +kernel
theorem d_Md_listFaces_74 : decode b_Md_listFaces 74 = .ok (.iaload, 1) := by decide +kernel
theorem d_Md_listFaces_75 : decode b_Md_listFaces 75 = .ok (.i2l, 1) := by decide +kernel
theorem d_Md_listFaces_76 : decode b_Md_listFaces 76 = .ok (.goto 13, 3) := by decide +kernel
theorem d_Md_listFaces_79 : decode b_Md_listFaces 79 = .ok (.aload_n 0, 1) := by decide +kernel
theorem d_Md_listFaces_80 : decode b_Md_listFaces 80 = .ok (.getfield 66, 3) := by decide +kernel
theorem d_Md_listFaces_83 : decode b_Md_listFaces 83 = .ok (.iload_n 2, 1) := by decide +kernel
theorem d_Md_listFaces_84 : decode b_Md_listFaces 84 = .ok (.iconst 1, 1) := by decide +kernel
theorem d_Md_listFaces_85 : decode b_Md_listFaces 85 = .ok (.ishr, 1) := by decide +kernel
theorem d_Md_listFaces_86 : decode b_Md_listFaces 86 = .ok (.iaload, 1) := by decide +kernel
theorem d_Md_listFaces_87 : decode b_Md_listFaces 87 = .ok (.ineg, 1) := by decide +kernel
theorem d_Md_listFaces_88 : decode b_Md_listFaces 88 = .ok (.i2l, 1) := by decide +kernel
theorem d_Md_listFaces_89 : decode b_Md_listFaces 89 = .ok (.invokevirtual 536, 3) := by decide +kernel
theorem d_Md_listFaces_92 : decode b_Md_listFaces 92 = .ok (.aload_n 0, 1) := by decide +kernel
theorem d_Md_listFaces_93 : decode b_Md_listFaces 93 = .ok (.iload_n 2, 1) := by decide +kernel
theorem d_Md_listFaces_94 : decode b_Md_listFaces 94 = .ok (.invokevirtual 333, 3) := by decide +kernel
theorem d_Md_listFaces_97 : decode b_Md_listFaces 97 = .ok (.istore_n 2, 1) := by decide +kernel
theorem d_Md_listFaces_98 : decode b_Md_listFaces 98 = .ok (.iload_n 2, 1) := by decide +kernel
theorem d_Md_listFaces_99 : decode b_Md_listFaces 99 = .ok (.aload_n 0, 1) := by decide +kernel
theorem d_Md_listFaces_100 : decode b_Md_listFaces 100 = .ok (.getfield 87, 3) := by decide +kernel
theorem d_Md_listFaces_103 : decode b_Md_listFaces 103 = .ok (.iload_n 1, 1) := by decide +kernel
theorem d_Md_listFaces_104 : decode b_Md_listFaces 104 = .ok (.iaload, 1) := by decide +kernel
theorem d_Md_listFaces_105 : decode b_Md_listFaces 105 = .ok (.if_icmp .ne (-45), 3) := by decide +kernel
theorem d_Md_listFaces_108 : decode b_Md_listFaces 108 = .ok (.aload_n 0, 1) := by decide +kernel
theorem d_Md_listFaces_109 : decode b_Md_listFaces 109 = .ok (.bipush 10, 2) := by decide +kernel
theorem d_Md_listFaces_111 : decode b_Md_listFaces 111 = .ok (.invokevirtual 509, 3) := by decide +kernel
theorem d_Md_listFaces_114 : decode b_Md_listFaces 114 = .ok (.iinc 1 1, 3) := by decide +kernel
theorem d_Md_listFaces_117 : decode b_Md_listFaces 117 = .ok (.goto (-94), 3) := by decide +kernel
theorem d_Md_listFaces_120 : decode b_Md_listFaces 120 = .ok (.return_, 1) := by decide +kernel
theorem d_Md_look_0 : decode b_Md_look 0 = .ok (.aload_n 0, 1) := by decide +kernel
theorem d_Md_look_1 : decode b_Md_look 1 = .ok (.iconst 0, 1) := by decide +kernel
theorem d_Md_look_2 : decode b_Md_look 2 = .ok (.putfield 129, 3) := by decide +kernel
theorem d_Md_look_5 : decode b_Md_look 5 = .ok (.aload_n 0, 1) := by decide +kernel
theorem d_Md_look_6 : decode b_Md_look 6 = .ok (.getfield 126, 3) := by decide +kernel
theorem d_Md_look_9 : decode b_Md_look 9 = .ok (.ifCond .eq 4, 3) := by decide +kernel
theorem d_Md_look_12 : decode b_Md_look 12 = .ok (.return_, 1) := by decide +kernel
theorem d_Md_look_13 : decode b_Md_look 13 = .ok (.iconst 0, 1) := by decide +kernel
theorem d_Md_look_14 : decode b_Md_look 14 = .ok (.istore_n 1, 1) := by decide +kernel
theorem d_Md_look_15 : decode b_Md_look 15 = .ok (.iconst 0, 1) := by decide +kernel
theorem d_Md_look_16 : decode b_Md_look 16 = .ok (.istore_n 2, 1) := by decide +kernel
theorem d_Md_look_17 : decode b_Md_look 17 = .ok (.aload_n 0, 1) := by decide +kernel
theorem d_Md_look_18 : decode b_Md_look 18 = .ok (.getfield 132, 3) := by decide +kernel
theorem d_Md_look_21 : decode b_Md_look 21 = .ok (.aload_n 0, 1) := by decide +kernel
theorem d_Md_look_22 : decode b_Md_look 22 = .ok (.getfield 135, 3) := by decide +kernel
theorem d_Md_look_25 : decode b_Md_look 25 = .ok (.if_icmp .ge 106, 3) := by decide +kernel
theorem d_Md_look_28 : decode b_Md_look 28 = .ok (.aload_n 0, 1) := by decide +kernel
theorem d_Md_look_29 : decode b_Md_look 29 = .ok (.getfield 16, 3) := by decide +kernel
theorem d_Md_look_32 : decode b_Md_look 32 = .ok (.aload_n 0, 1) := by decide +kernel
theorem d_Md_look_33 : decode b_Md_look 33 = .ok (.getfield 132, 3) := by decide +kernel
theorem d_Md_look_36 : decode b_Md_look 36 = .ok (.baload, 1) := by decide +kernel
theorem d_Md_look_37 : decode b_Md_look 37 = .ok (.bipush 10, 2) := by decide +kernel
theorem d_Md_look_39 : decode b_Md_look 39 = .ok (.if_icmp .eq 92, 3) := by decide +kernel
theorem d_Md_look_42 : decode b_Md_look 42 = .ok (.iload_n 2, 1) := by decide +kernel
theorem d_Md_look_43 : decode b_Md_look 43 = .ok (.ifCond .ne 88, 3) := by decide +kernel
theorem d_Md_look_46 : decode b_Md_look 46 = .ok (.aload_n 0, 1) := by decide +kernel
theorem d_Md_look_47 : decode b_Md_look 47 = .ok (.getfield 16, 3) := by decide +kernel
theorem d_Md_look_50 : decode b_Md_look 50 = .ok (.aload_n 0, 1) := by decide +kernel
theorem d_Md_look_51 : decode b_Md_look 51 = .ok (.getfield 132, 3) := by decide +kernel
theorem d_Md_look_54 : decode b_Md_look 54 = .ok (.baload, 1) := by decide +kernel
theorem d_Md_look_55 : decode b_Md_look 55 = .ok (.istore_n 3, 1) := by decide +kernel
theorem d_Md_look_56 : decode b_Md_look 56 = .ok (.iload_n 3, 1) := by decide +kernel
theorem d_Md_look_57 : decode b_Md_look 57 = .ok (.bipush 32, 2) := by decide +kernel
theorem d_Md_look_59 : decode b_Md_look 59 = .ok (.if_icmp .lt 9, 3) := by decide +kernel
theorem d_Md_look_62 : decode b_Md_look 62 = .ok (.iload_n 3, 1) := by decide +kernel
theorem d_Md_look_63 : decode b_Md_look 63 = .ok (.bipush 126, 2) := by decide +kernel
theorem d_Md_look_65 : decode b_Md_look 65 = .ok (.if_icmp .le 13, 3) := by decide +kernel
theorem d_Md_look_68 : decode b_Md_look 68 = .ok (.aload_n 0, 1) := by decide +kernel
theorem d_Md_look_69 : decode b_Md_look 69 = .ok (.iconst 1, 1) := by decide +kernel
theorem d_Md_look_70 : decode b_Md_look 70 = .ok (.aload_n 0, 1) := by decide +kernel
theorem d_Md_look_71 : decode b_Md_look 71 = .ok (.getfield 132, 3) := by decide +kernel
theorem d_Md_look_74 : decode b_Md_look 74 = .ok (.invokevirtual 138, 3) := by decide +kernel
theorem d_Md_look_77 : decode b_Md_look 77 = .ok (.return_, 1) := by decide +kernel
theorem d_Md_look_78 : decode b_Md_look 78 = .ok (.iload_n 1, 1) := by decide +kernel
theorem d_Md_look_79 : decode b_Md_look 79 = .ok (.ifCond .ne 9, 3) := by decide +kernel
theorem d_Md_look_82 : decode b_Md_look 82 = .ok (.iload_n 3, 1) := by decide +kernel
theorem d_Md_look_83 : decode b_Md_look 83 = .ok (.bipush 35, 2) := by decide +kernel
theorem d_Md_look_85 : decode b_Md_look 85 = .ok (.if_icmp .ne 7, 3) := by decide +kernel
theorem d_Md_look_88 : decode b_Md_look 88 = .ok (.iconst 1, 1) := by decide +kernel
theorem d_Md_look_89 : decode b_Md_look 89 = .ok (.goto 4, 3) := by decide +kernel
theorem d_Md_look_92 : decode b_Md_look 92 = .ok (.iconst 0, 1) := by decide +kernel
theorem d_Md_look_93 : decode b_Md_look 93 = .ok (.istore_n 1, 1) := by decide +kernel
theorem d_Md_look_94 : decode b_Md_look 94 = .ok (.iload_n 1, 1) := by decide +kernel
theorem d_Md_look_95 : decode b_Md_look 95 = .ok (.ifCond .ne 13, 3) := by decide +kernel
theorem d_Md_look_98 : decode b_Md_look 98 = .ok (.iload_n 3, 1) := by decide +kernel
theorem d_Md_look_99 : decode b_Md_look 99 = .ok (.bipush 32, 2) := by decide +kernel
theorem d_Md_look_101 : decode b_Md_look 101 = .ok (.if_icmp .eq 7, 3) := by decide +kernel
theorem d_Md_look_104 : decode b_Md_look 104 = .ok (.iconst 1, 1) := by decide +kernel
theorem d_Md_look_105 : decode b_Md_look 105 = .ok (.goto 4, 3) := by decide +kernel
theorem d_Md_look_108 : decode b_Md_look 108 = .ok (.iconst 0, 1) := by decide +kernel
theorem d_Md_look_109 : decode b_Md_look 109 = .ok (.istore_n 2, 1) := by decide +kernel
theorem d_Md_look_110 : decode b_Md_look 110 = .ok (.aload_n 0, 1) := by decide +kernel
theorem d_Md_look_111 : decode b_Md_look 111 = .ok (.dup, 1) := by decide +kernel
theorem d_Md_look_112 : decode b_Md_look 112 = .ok (.getfield 132, 3) := by decide +kernel
theorem d_Md_look_115 : decode b_Md_look 115 = .ok (.iload_n 2, 1) := by decide +kernel
theorem d_Md_look_116 : decode b_Md_look 116 = .ok (.ifCond .eq 7, 3) := by decide +kernel
theorem d_Md_look_119 : decode b_Md_look 119 = .ok (.iconst 0, 1) := by decide +kernel
theorem d_Md_look_120 : decode b_Md_look 120 = .ok (.goto 4, 3) := by decide +kernel
theorem d_Md_look_123 : decode b_Md_look 123 = .ok (.iconst 1, 1) := by decide +kernel
theorem d_Md_look_124 : decode b_Md_look 124 = .ok (.iadd, 1) := by decide +kernel
theorem d_Md_look_125 : decode b_Md_look 125 = .ok (.putfield 132, 3) := by decide +kernel
theorem d_Md_look_128 : decode b_Md_look 128 = .ok (.goto (-111), 3) := by decide +kernel
theorem d_Md_look_131 : decode b_Md_look 131 = .ok (.aload_n 0, 1) := by decide +kernel
theorem d_Md_look_132 : decode b_Md_look 132 = .ok (.aload_n 0, 1) := by decide +kernel
theorem d_Md_look_133 : decode b_Md_look 133 = .ok (.getfield 132, 3) := by decide +kernel
theorem d_Md_look_136 : decode b_Md_look 136 = .ok (.putfield 142, 3) := by decide +kernel
theorem d_Md_look_139 : decode b_Md_look 139 = .ok (.iload_n 2, 1) := by decide +kernel
theorem d_Md_look_140 : decode b_Md_look 140 = .ok (.ifCond .ne 4, 3) := by decide +kernel
theorem d_Md_look_143 : decode b_Md_look 143 = .ok (.return_, 1) := by decide +kernel
theorem d_Md_look_144 : decode b_Md_look 144 = .ok (.aload_n 0, 1) := by decide +kernel
theorem d_Md_look_145 : decode b_Md_look 145 = .ok (.aload_n 0, 1) := by decide +kernel
theorem d_Md_look_146 : decode b_Md_look 146 = .ok (.getfield 16, 3) := by decide +kernel
theorem d_Md_look_149 : decode b_Md_look 149 = .ok (.aload_n 0, 1) := by decide +kernel
theorem d_Md_look_150 : decode b_Md_look 150 = .ok (.getfield 132, 3) := by decide +kernel
theorem d_Md_look_153 : decode b_Md_look 153 = .ok (.baload, 1) := by decide +kernel
theorem d_Md_look_154 : decode b_Md_look 154 = .ok (.invokestatic 145, 3) := by decide +kernel
theorem d_Md_look_157 : decode b_Md_look 157 = .ok (.ifCond .eq 7, 3) := by decide +kernel
theorem d_Md_look_160 : decode b_Md_look 160 = .ok (.iconst 1, 1) := by decide +kernel
theorem d_Md_look_161 : decode b_Md_look 161 = .ok (.goto 23, 3) := by decide +kernel
theorem d_Md_look_164 : decode b_Md_look 164 = .ok (.aload_n 0, 1) := by decide +kernel
theorem d_Md_look_165 : decode b_Md_look 165 = .ok (.getfield 16, 3) := by decide +kernel
theorem d_Md_look_168 : decode b_Md_look 168 = .ok (.aload_n 0, 1) := by decide +kernel
theorem d_Md_look_169 : decode b_Md_look 169 = .ok (.getfield 132, 3) := by decide +kernel
theorem d_Md_look_172 : decode b_Md_look 172 = .ok (.baload, 1) := by decide +kernel
theorem d_Md_look_173 : decode b_Md_look 173 = .ok (.invokestatic 149, 3) := by decide +kernel
theorem d_Md_look_176 : decode b_Md_look 176 = .ok (.ifCond .eq 7, 3) := by decide +kernel
theorem d_Md_look_179 : decode b_Md_look 179 = .ok (.iconst 2, 1) := by decide +kernel
theorem d_Md_look_180 : decode b_Md_look 180 = .ok (.goto 4, 3) := by decide +kernel
theorem d_Md_look_183 : decode b_Md_look 183 = .ok (.iconst 3, 1) := by decide +kernel
theorem d_Md_look_184 : decode b_Md_look 184 = .ok (.putfield 129, 3) := by decide +kernel
theorem d_Md_look_187 : decode b_Md_look 187 = .ok (.aload_n 0, 1) := by decide +kernel
theorem d_Md_look_188 : decode b_Md_look 188 = .ok (.dup, 1) := by decide +kernel
theorem d_Md_look_189 : decode b_Md_look 189 = .ok (.getfield 132, 3) := by decide +kernel
theorem d_Md_look_192 : decode b_Md_look 192 = .ok (.iconst 1, 1) := by decide +kernel
theorem d_Md_look_193 : decode b_Md_look 193 = .ok (.iadd, 1) := by decide +kernel
theorem d_Md_look_194 : decode b_Md_look 194 = .ok (.putfield 132, 3) := by decide +kernel
theorem d_Md_look_197 : decode b_Md_look 197 = .ok (.aload_n 0, 1) := by decide +kernel
theorem d_Md_look_198 : decode b_Md_look 198 = .ok (.getfield 132, 3) := by decide +kernel
theorem d_Md_look_201 : decode b_Md_look 201 = .ok (.aload_n 0, 1) := by decide +kernel
theorem d_Md_look_202 : decode b_Md_look 202 = .ok (.getfield 135, 3) := by decide +kernel
theorem d_Md_look_205 : decode b_Md_look 205 = .ok (.if_icmp .ge 62, 3) := by decide +kernel
theorem d_Md_look_208 : decode b_Md_look 208 = .ok (.aload_n 0, 1) := by decide +kernel
theorem d_Md_look_209 : decode b_Md_look 209 = .ok (.getfield 129, 3) := by decide +kernel
theorem d_Md_look_212 : decode b_Md_look 212 = .ok (.iconst 1, 1) := by decide +kernel
theorem d_Md_look_213 : decode b_Md_look 213 = .ok (.if_icmp .ne 18, 3) := by decide +kernel
theorem d_Md_look_216 : decode b_Md_look 216 = .ok (.aload_n 0, 1) := by decide +kernel
theorem d_Md_look_217 : decode b_Md_look 217 = .ok (.getfield 16, 3) := by decide +kernel
theorem d_Md_look_220 : decode b_Md_look 220 = .ok (.aload_n 0, 1) := by decide +kernel
theorem d_Md_look_221 : decode b_Md_look 221 = .ok (.getfield 132, 3) := by decide +kernel
theorem d_Md_look_224 : decode b_Md_look 224 = .ok (.baload, 1) := by decide +kernel
theorem d_Md_look_225 : decode b_Md_look 225 = .ok (.invokestatic 145, 3) := by decide +kernel
theorem d_Md_look_228 : decode b_Md_look 228 = .ok (.ifCond .ne 26, 3) := by decide +kernel
