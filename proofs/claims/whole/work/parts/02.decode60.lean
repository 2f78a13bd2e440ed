theorem d_Md_sayPoly_139 : decode b_Md_sayPoly 139 = .ok (.goto 5, 3) := by decide +kernel
theorem d_Md_sayPoly_142 : decode b_Md_sayPoly 142 = .ok (.bipush 65, 2) := by decide +kernel
theorem d_Md_sayPoly_144 : decode b_Md_sayPoly 144 = .ok (.invokevirtual 509, 3) := by decide +kernel
theorem d_Md_sayPoly_147 : decode b_Md_sayPoly 147 = .ok (.iload_n 3, 1) := by decide +kernel
theorem d_Md_sayPoly_148 : decode b_Md_sayPoly 148 = .ok (.iconst 1, 1) := by decide +kernel
theorem d_Md_sayPoly_149 : decode b_Md_sayPoly 149 = .ok (.if_icmp .ne 6, 3) := by decide +kernel
theorem d_Md_sayPoly_152 : decode b_Md_sayPoly 152 = .ok (.goto 15, 3) := by decide +kernel
theorem d_Md_sayPoly_155 : decode b_Md_sayPoly 155 = .ok (.aload_n 0, 1) := by decide +kernel
theorem d_Md_sayPoly_156 : decode b_Md_sayPoly 156 = .ok (.bipush 94, 2) := by decide +kernel
theorem d_Md_sayPoly_158 : decode b_Md_sayPoly 158 = .ok (.invokevirtual 509, 3) := by decide +kernel
theorem d_Md_sayPoly_161 : decode b_Md_sayPoly 161 = .ok (.aload_n 0, 1) := by decide +kernel
theorem d_Md_sayPoly_162 : decode b_Md_sayPoly 162 = .ok (.iload_n 3, 1) := by decide +kernel
theorem d_Md_sayPoly_163 : decode b_Md_sayPoly 163 = .ok (.i2l, 1) := by decide +kernel
theorem d_Md_sayPoly_164 : decode b_Md_sayPoly 164 = .ok (.invokevirtual 514, 3) := by decide +kernel
theorem d_Md_sayPoly_167 : decode b_Md_sayPoly 167 = .ok (.iinc 3 1, 3) := by decide +kernel
theorem d_Md_sayPoly_170 : decode b_Md_sayPoly 170 = .ok (.goto (-150), 3) := by decide +kernel
theorem d_Md_sayPoly_173 : decode b_Md_sayPoly 173 = .ok (.iload_n 2, 1) := by decide +kernel
theorem d_Md_sayPoly_174 : decode b_Md_sayPoly 174 = .ok (.ifCond .ne 9, 3) := by decide +kernel
theorem d_Md_sayPoly_177 : decode b_Md_sayPoly 177 = .ok (.aload_n 0, 1) := by decide +kernel
theorem d_Md_sayPoly_178 : decode b_Md_sayPoly 178 = .ok (.bipush 48, 2) := by decide +kernel
theorem d_Md_sayPoly_180 : decode b_Md_sayPoly 180 = .ok (.invokevirtual 509, 3) := by decide +kernel
theorem d_Md_sayPoly_183 : decode b_Md_sayPoly 183 = .ok (.aload_n 0, 1) := by decide +kernel
theorem d_Md_sayPoly_184 : decode b_Md_sayPoly 184 = .ok (.bipush 10, 2) := by decide +kernel
theorem d_Md_sayPoly_186 : decode b_Md_sayPoly 186 = .ok (.invokevirtual 509, 3) := by decide +kernel
theorem d_Md_sayPoly_189 : decode b_Md_sayPoly 189 = .ok (.return_, 1) := by decide +kernel
theorem d_Md_seifert_0 : decode b_Md_seifert 0 = .ok (.iconst 0, 1) := by decide +kernel
theorem d_Md_seifert_1 : decode b_Md_seifert 1 = .ok (.istore_n 1, 1) := by decide +kernel
theorem d_Md_seifert_2 : decode b_Md_seifert 2 = .ok (.iconst 0, 1) := by decide +kernel
theorem d_Md_seifert_3 : decode b_Md_seifert 3 = .ok (.istore_n 2, 1) := by decide +kernel
theorem d_Md_seifert_4 : decode b_Md_seifert 4 = .ok (.iload_n 2, 1) := by decide +kernel
theorem d_Md_seifert_5 : decode b_Md_seifert 5 = .ok (.aload_n 0, 1) := by decide +kernel
theorem d_Md_seifert_6 : decode b_Md_seifert 6 = .ok (.getfield 309, 3) := by decide +kernel
theorem d_Md_seifert_9 : decode b_Md_seifert 9 = .ok (.if_icmp .ge 16, 3) := by decide +kernel
theorem d_Md_seifert_12 : decode b_Md_seifert 12 = .ok (.aload_n 0, 1) := by decide +kernel
theorem d_Md_seifert_13 : decode b_Md_seifert 13 = .ok (.getfield 102, 3) := by decide +kernel
theorem d_Md_seifert_16 : decode b_Md_seifert 16 = .ok (.iload_n 2, 1) := by decide +kernel
theorem d_Md_seifert_17 : decode b_Md_seifert 17 = .ok (.iconst 0, 1) := by decide +kernel
theorem d_Md_seifert_18 : decode b_Md_seifert 18 = .ok (.iastore, 1) := by decide +kernel
theorem d_Md_seifert_19 : decode b_Md_seifert 19 = .ok (.iinc 2 1, 3) := by decide +kernel
theorem d_Md_seifert_22 : decode b_Md_seifert 22 = .ok (.goto (-18), 3) := by decide +kernel
theorem d_Md_seifert_25 : decode b_Md_seifert 25 = .ok (.iconst 0, 1) := by decide +kernel
theorem d_Md_seifert_26 : decode b_Md_seifert 26 = .ok (.istore_n 2, 1) := by decide +kernel
theorem d_Md_seifert_27 : decode b_Md_seifert 27 = .ok (.iload_n 2, 1) := by decide +kernel
theorem d_Md_seifert_28 : decode b_Md_seifert 28 = .ok (.aload_n 0, 1) := by decide +kernel
theorem d_Md_seifert_29 : decode b_Md_seifert 29 = .ok (.getfield 309, 3) := by decide +kernel
theorem d_Md_seifert_32 : decode b_Md_seifert 32 = .ok (.if_icmp .ge 90, 3) := by decide +kernel
theorem d_Md_seifert_35 : decode b_Md_seifert 35 = .ok (.aload_n 0, 1) := by decide +kernel
theorem d_Md_seifert_36 : decode b_Md_seifert 36 = .ok (.getfield 102, 3) := by decide +kernel
theorem d_Md_seifert_39 : decode b_Md_seifert 39 = .ok (.iload_n 2, 1) := by decide +kernel
theorem d_Md_seifert_40 : decode b_Md_seifert 40 = .ok (.iaload, 1) := by decide +kernel
theorem d_Md_seifert_41 : decode b_Md_seifert 41 = .ok (.ifCond .le 6, 3) := by decide +kernel
theorem d_Md_seifert_44 : decode b_Md_seifert 44 = .ok (.goto 72, 3) := by decide +kernel
theorem d_Md_seifert_47 : decode b_Md_seifert 47 = .ok (.iinc 1 1, 3) := by decide +kernel
theorem d_Md_seifert_50 : decode b_Md_seifert 50 = .ok (.iload_n 2, 1) := by decide +kernel
theorem d_Md_seifert_51 : decode b_Md_seifert 51 = .ok (.istore_n 3, 1) := by decide +kernel
theorem d_Md_seifert_52 : decode b_Md_seifert 52 = .ok (.aload_n 0, 1) := by decide +kernel
theorem d_Md_seifert_53 : decode b_Md_seifert 53 = .ok (.getfield 102, 3) := by decide +kernel
theorem d_Md_seifert_56 : decode b_Md_seifert 56 = .ok (.iload_n 3, 1) := by decide +kernel
theorem d_Md_seifert_57 : decode b_Md_seifert 57 = .ok (.iaload, 1) := by decide +kernel
theorem d_Md_seifert_58 : decode b_Md_seifert 58 = .ok (.ifCond .ne 58, 3) := by decide +kernel
theorem d_Md_seifert_61 : decode b_Md_seifert 61 = .ok (.aload_n 0, 1) := by decide +kernel
theorem d_Md_seifert_62 : decode b_Md_seifert 62 = .ok (.getfield 102, 3) := by decide +kernel
theorem d_Md_seifert_65 : decode b_Md_seifert 65 = .ok (.iload_n 3, 1) := by decide +kernel
theorem d_Md_seifert_66 : decode b_Md_seifert 66 = .ok (.iconst 1, 1) := by decide +kernel
theorem d_Md_seifert_67 : decode b_Md_seifert 67 = .ok (.iastore, 1) := by decide +kernel
theorem d_Md_seifert_68 : decode b_Md_seifert 68 = .ok (.aload_n 0, 1) := by decide +kernel
theorem d_Md_seifert_69 : decode b_Md_seifert 69 = .ok (.getfield 72, 3) := by decide +kernel
theorem d_Md_seifert_72 : decode b_Md_seifert 72 = .ok (.iload_n 3, 1) := by decide +kernel
theorem d_Md_seifert_73 : decode b_Md_seifert 73 = .ok (.iaload, 1) := by decide +kernel
theorem d_Md_seifert_74 : decode b_Md_seifert 74 = .ok (.istore 4, 2) := by decide +kernel
theorem d_Md_seifert_76 : decode b_Md_seifert 76 = .ok (.iload 4, 2) := by decide +kernel
theorem d_Md_seifert_78 : decode b_Md_seifert 78 = .ok (.iconst 2, 1) := by decide +kernel
theorem d_Md_seifert_79 : decode b_Md_seifert 79 = .ok (.ishr, 1) := by decide +kernel
theorem d_Md_seifert_80 : decode b_Md_seifert 80 = .ok (.istore 5, 2) := by decide +kernel
theorem d_Md_seifert_82 : decode b_Md_seifert 82 = .ok (.aload_n 0, 1) := by decide +kernel
theorem d_Md_seifert_83 : decode b_Md_seifert 83 = .ok (.getfield 81, 3) := by decide +kernel
theorem d_Md_seifert_86 : decode b_Md_seifert 86 = .ok (.iload 4, 2) := by decide +kernel
theorem d_Md_seifert_88 : decode b_Md_seifert 88 = .ok (.invokestatic 370, 3) := by decide +kernel
theorem d_Md_seifert_91 : decode b_Md_seifert 91 = .ok (.ifCond .eq 12, 3) := by decide +kernel
theorem d_Md_seifert_94 : decode b_Md_seifert 94 = .ok (.iconst 4, 1) := by decide +kernel
theorem d_Md_seifert_95 : decode b_Md_seifert 95 = .ok (.iload 5, 2) := by decide +kernel
theorem d_Md_seifert_97 : decode b_Md_seifert 97 = .ok (.imul, 1) := by decide +kernel
theorem d_Md_seifert_98 : decode b_Md_seifert 98 = .ok (.iconst 2, 1) := by decide +kernel
theorem d_Md_seifert_99 : decode b_Md_seifert 99 = .ok (.iadd, 1) := by decide +kernel
theorem d_Md_seifert_100 : decode b_Md_seifert 100 = .ok (.goto 11, 3) := by decide +kernel
theorem d_Md_seifert_103 : decode b_Md_seifert 103 = .ok (.aload_n 0, 1) := by decide +kernel
theorem d_Md_seifert_104 : decode b_Md_seifert 104 = .ok (.iload 5, 2) := by decide +kernel
theorem d_Md_seifert_106 : decode b_Md_seifert 106 = .ok (.invokevirtual 360, 3) := by decide +kernel
theorem d_Md_seifert_109 : decode b_Md_seifert 109 = .ok (.iconst 2, 1) := by decide +kernel
theorem d_Md_seifert_110 : decode b_Md_seifert 110 = .ok (.ixor, 1) := by decide +kernel
theorem d_Md_seifert_111 : decode b_Md_seifert 111 = .ok (.iaload, 1) := by decide +kernel
theorem d_Md_seifert_112 : decode b_Md_seifert 112 = .ok (.istore_n 3, 1) := by decide +kernel
theorem d_Md_seifert_113 : decode b_Md_seifert 113 = .ok (.goto (-61), 3) := by decide +kernel
theorem d_Md_seifert_116 : decode b_Md_seifert 116 = .ok (.iinc 2 1, 3) := by decide +kernel
theorem d_Md_seifert_119 : decode b_Md_seifert 119 = .ok (.goto (-92), 3) := by decide +kernel
theorem d_Md_seifert_122 : decode b_Md_seifert 122 = .ok (.iload_n 1, 1) := by decide +kernel
theorem d_Md_seifert_123 : decode b_Md_seifert 123 = .ok (.aload_n 0, 1) := by decide +kernel
theorem d_Md_seifert_124 : decode b_Md_seifert 124 = .ok (.getfield 37, 3) := by decide +kernel
theorem d_Md_seifert_127 : decode b_Md_seifert 127 = .ok (.getfield 354, 3) := by decide +kernel
theorem d_Md_seifert_130 : decode b_Md_seifert 130 = .ok (.iadd, 1) := by decide +kernel
theorem d_Md_seifert_131 : decode b_Md_seifert 131 = .ok (.ireturn, 1) := by decide +kernel
theorem d_Md_setBraid_0 : decode b_Md_setBraid 0 = .ok (.aload_n 0, 1) := by decide +kernel
theorem d_Md_setBraid_1 : decode b_Md_setBraid 1 = .ok (.iconst 0, 1) := by decide +kernel
theorem d_Md_setBraid_2 : decode b_Md_setBraid 2 = .ok (.invokevirtual 547, 3) := by decide +kernel
theorem d_Md_setBraid_5 : decode b_Md_setBraid 5 = .ok (.istore_n 1, 1) := by decide +kernel
theorem d_Md_setBraid_6 : decode b_Md_setBraid 6 = .ok (.aload_n 0, 1) := by decide +kernel
theorem d_Md_setBraid_7 : decode b_Md_setBraid 7 = .ok (.invokevirtual 545, 3) := by decide +kernel
theorem d_Md_setBraid_10 : decode b_Md_setBraid 10 = .ok (.iconst 1, 1) := by decide +kernel
theorem d_Md_setBraid_11 : decode b_Md_setBraid 11 = .ok (.isub, 1) := by decide +kernel
theorem d_Md_setBraid_12 : decode b_Md_setBraid 12 = .ok (.istore_n 2, 1) := by decide +kernel
theorem d_Md_setBraid_13 : decode b_Md_setBraid 13 = .ok (.iload_n 1, 1) := by decide +kernel
theorem d_Md_setBraid_14 : decode b_Md_setBraid 14 = .ok (.iconst 1, 1) := by decide +kernel
theorem d_Md_setBraid_15 : decode b_Md_setBraid 15 = .ok (.if_icmp .lt 19, 3) := by decide +kernel
theorem d_Md_setBraid_18 : decode b_Md_setBraid 18 = .ok (.iload_n 1, 1) := by decide +kernel
theorem d_Md_setBraid_19 : decode b_Md_setBraid 19 = .ok (.bipush 8, 2) := by decide +kernel
theorem d_Md_setBraid_21 : decode b_Md_setBraid 21 = .ok (.if_icmp .gt 13, 3) := by decide +kernel
theorem d_Md_setBraid_24 : decode b_Md_setBraid 24 = .ok (.iload_n 2, 1) := by decide +kernel
theorem d_Md_setBraid_25 : decode b_Md_setBraid 25 = .ok (.bipush 20, 2) := by decide +kernel
theorem d_Md_setBraid_27 : decode b_Md_setBraid 27 = .ok (.if_icmp .gt 7, 3) := by decide +kernel
theorem d_Md_setBraid_30 : decode b_Md_setBraid 30 = .ok (.iconst 1, 1) := by decide +kernel
theorem d_Md_setBraid_31 : decode b_Md_setBraid 31 = .ok (.goto 4, 3) := by decide +kernel
theorem d_Md_setBraid_34 : decode b_Md_setBraid 34 = .ok (.iconst 0, 1) := by decide +kernel
theorem d_Md_setBraid_35 : decode b_Md_setBraid 35 = .ok (.istore_n 3, 1) := by decide +kernel
theorem d_Md_setBraid_36 : decode b_Md_setBraid 36 = .ok (.iconst 1, 1) := by decide +kernel
theorem d_Md_setBraid_37 : decode b_Md_setBraid 37 = .ok (.istore 4, 2) := by decide +kernel
theorem d_Md_setBraid_39 : decode b_Md_setBraid 39 = .ok (.iload 4, 2) := by decide +kernel
theorem d_Md_setBraid_41 : decode b_Md_setBraid 41 = .ok (.iload_n 2, 1) := by decide +kernel
theorem d_Md_setBraid_42 : decode b_Md_setBraid 42 = .ok (.if_icmp .gt 49, 3) := by decide +kernel
theorem d_Md_setBraid_45 : decode b_Md_setBraid 45 = .ok (.iload_n 3, 1) := by decide +kernel
theorem d_Md_setBraid_46 : decode b_Md_setBraid 46 = .ok (.ifCond .eq 37, 3) := by decide +kernel
theorem d_Md_setBraid_49 : decode b_Md_setBraid 49 = .ok (.aload_n 0, 1) := by decide +kernel
theorem d_Md_setBraid_50 : decode b_Md_setBraid 50 = .ok (.iload 4, 2) := by decide +kernel
theorem d_Md_setBraid_52 : decode b_Md_setBraid 52 = .ok (.invokevirtual 547, 3) := by decide +kernel
theorem d_Md_setBraid_55 : decode b_Md_setBraid 55 = .ok (.ifCond .eq 28, 3) := by decide +kernel
theorem d_Md_setBraid_58 : decode b_Md_setBraid 58 = .ok (.aload_n 0, 1) := by decide +kernel
theorem d_Md_setBraid_59 : decode b_Md_setBraid 59 = .ok (.iload 4, 2) := by decide +kernel
theorem d_Md_setBraid_61 : decode b_Md_setBraid 61 = .ok (.invokevirtual 547, 3) := by decide +kernel
theorem d_Md_setBraid_64 : decode b_Md_setBraid 64 = .ok (.iload_n 1, 1) := by decide +kernel
theorem d_Md_setBraid_65 : decode b_Md_setBraid 65 = .ok (.if_icmp .ge 18, 3) := by decide +kernel
theorem d_Md_setBraid_68 : decode b_Md_setBraid 68 = .ok (.aload_n 0, 1) := by decide +kernel
theorem d_Md_setBraid_69 : decode b_Md_setBraid 69 = .ok (.iload 4, 2) := by decide +kernel
theorem d_Md_setBraid_71 : decode b_Md_setBraid 71 = .ok (.invokevirtual 547, 3) := by decide +kernel
theorem d_Md_setBraid_74 : decode b_Md_setBraid 74 = .ok (.iload_n 1, 1) := by decide +kernel
theorem d_Md_setBraid_75 : decode b_Md_setBraid 75 = .ok (.ineg, 1) := by decide +kernel
theorem d_Md_setBraid_76 : decode b_Md_setBraid 76 = .ok (.if_icmp .le 7, 3) := by decide +kernel
theorem d_Md_setBraid_79 : decode b_Md_setBraid 79 = .ok (.iconst 1, 1) := by decide +kernel
theorem d_Md_setBraid_80 : decode b_Md_setBraid 80 = .ok (.goto 4, 3) := by decide +kernel
theorem d_Md_setBraid_83 : decode b_Md_setBraid 83 = .ok (.iconst 0, 1) := by decide +kernel
theorem d_Md_setBraid_84 : decode b_Md_setBraid 84 = .ok (.istore_n 3, 1) := by decide +kernel
theorem d_Md_setBraid_85 : decode b_Md_setBraid 85 = .ok (.iinc 4 1, 3) := by decide +kernel
theorem d_Md_setBraid_88 : decode b_Md_setBraid 88 = .ok (.goto (-49), 3) := by decide +kernel
theorem d_Md_setBraid_91 : decode b_Md_setBraid 91 = .ok (.aload_n 0, 1) := by decide +kernel
theorem d_Md_setBraid_92 : decode b_Md_setBraid 92 = .ok (.iload_n 3, 1) := by decide +kernel
theorem d_Md_setBraid_93 : decode b_Md_setBraid 93 = .ok (.invokevirtual 566, 3) := by decide +kernel
theorem d_Md_setBraid_96 : decode b_Md_setBraid 96 = .ok (.iload_n 3, 1) := by decide +kernel
theorem d_Md_setBraid_97 : decode b_Md_setBraid 97 = .ok (.ifCond .ne 4, 3) := by decide +kernel
theorem d_Md_setBraid_100 : decode b_Md_setBraid 100 = .ok (.return_, 1) := by decide +kernel
theorem d_Md_setBraid_101 : decode b_Md_setBraid 101 = .ok (.aload_n 0, 1) := by decide +kernel
theorem d_Md_setBraid_102 : decode b_Md_setBraid 102 = .ok (.getfield 54, 3) := by decide +kernel
theorem d_Md_setBraid_105 : decode b_Md_setBraid 105 = .ok (.aload_n 0, 1) := by decide +kernel
theorem d_Md_setBraid_106 : decode b_Md_setBraid 106 = .ok (.getfield 50, 3) := by decide +kernel
theorem d_Md_setBraid_109 : decode b_Md_setBraid 109 = .ok (.invokevirtual 570, 3) := by decide +kernel
theorem d_Md_setBraid_112 : decode b_Md_setBraid 112 = .ok (.aload_n 0, 1) := by decide +kernel
theorem d_Md_setBraid_113 : decode b_Md_setBraid 113 = .ok (.getfield 50, 3) := by decide +kernel
theorem d_Md_setBraid_116 : decode b_Md_setBraid 116 = .ok (.iload_n 1, 1) := by decide +kernel
theorem d_Md_setBraid_117 : decode b_Md_setBraid 117 = .ok (.putfield 395, 3) := by decide +kernel
theorem d_Md_setBraid_120 : decode b_Md_setBraid 120 = .ok (.aload_n 0, 1) := by decide +kernel
theorem d_Md_setBraid_121 : decode b_Md_setBraid 121 = .ok (.getfield 50, 3) := by decide +kernel
theorem d_Md_setBraid_124 : decode b_Md_setBraid 124 = .ok (.iload_n 2, 1) := by decide +kernel
theorem d_Md_setBraid_125 : decode b_Md_setBraid 125 = .ok (.putfield 398, 3) := by decide +kernel
theorem d_Md_setBraid_128 : decode b_Md_setBraid 128 = .ok (.iconst 0, 1) := by decide +kernel
theorem d_Md_setBraid_129 : decode b_Md_setBraid 129 = .ok (.istore 4, 2) := by decide +kernel
theorem d_Md_setBraid_131 : decode b_Md_setBraid 131 = .ok (.iload 4, 2) := by decide +kernel
theorem d_Md_setBraid_133 : decode b_Md_setBraid 133 = .ok (.iload_n 2, 1) := by decide +kernel
theorem d_Md_setBraid_134 : decode b_Md_setBraid 134 = .ok (.if_icmp .ge 27, 3) := by decide +kernel
theorem d_Md_setBraid_137 : decode b_Md_setBraid 137 = .ok (.aload_n 0, 1) := by decide +kernel
theorem d_Md_setBraid_138 : decode b_Md_setBraid 138 = .ok (.getfield 50, 3) := by decide +kernel
theorem d_Md_setBraid_141 : decode b_Md_setBraid 141 = .ok (.getfield 400, 3) := by decide +kernel
theorem d_Md_setBraid_144 : decode b_Md_setBraid 144 = .ok (.iload 4, 2) := by decide +kernel
theorem d_Md_setBraid_146 : decode b_Md_setBraid 146 = .ok (.aload_n 0, 1) := by decide +kernel
theorem d_Md_setBraid_147 : decode b_Md_setBraid 147 = .ok (.iload 4, 2) := by decide +kernel
theorem d_Md_setBraid_149 : decode b_Md_setBraid 149 = .ok (.iconst 1, 1) := by decide +kernel
theorem d_Md_setBraid_150 : decode b_Md_setBraid 150 = .ok (.iadd, 1) := by decide +kernel
theorem d_Md_setBraid_151 : decode b_Md_setBraid 151 = .ok (.invokevirtual 547, 3) := by decide +kernel
theorem d_Md_setBraid_154 : decode b_Md_setBraid 154 = .ok (.iastore, 1) := by decide +kernel
theorem d_Md_setBraid_155 : decode b_Md_setBraid 155 = .ok (.iinc 4 1, 3) := by decide +kernel
theorem d_Md_setBraid_158 : decode b_Md_setBraid 158 = .ok (.goto (-27), 3) := by decide +kernel
theorem d_Md_setBraid_161 : decode b_Md_setBraid 161 = .ok (.aload_n 0, 1) := by decide +kernel
theorem d_Md_setBraid_162 : decode b_Md_setBraid 162 = .ok (.aload_n 0, 1) := by decide +kernel
theorem d_Md_setBraid_163 : decode b_Md_setBraid 163 = .ok (.getfield 50, 3) := by decide +kernel
theorem d_Md_setBraid_166 : decode b_Md_setBraid 166 = .ok (.invokevirtual 572, 3) := by decide +kernel
theorem d_Md_setBraid_169 : decode b_Md_setBraid 169 = .ok (.return_, 1) := by decide +kernel
theorem d_Md_setCode_0 : decode b_Md_setCode 0 = .ok (.aload_n 0, 1) := by decide +kernel
theorem d_Md_setCode_1 : decode b_Md_setCode 1 = .ok (.invokevirtual 545, 3) := by decide +kernel
theorem d_Md_setCode_4 : decode b_Md_setCode 4 = .ok (.iconst 5, 1) := by decide +kernel
theorem d_Md_setCode_5 : decode b_Md_setCode 5 = .ok (.idiv, 1) := by decide +kernel
theorem d_Md_setCode_6 : decode b_Md_setCode 6 = .ok (.istore_n 1, 1) := by decide +kernel
theorem d_Md_setCode_7 : decode b_Md_setCode 7 = .ok (.aload_n 0, 1) := by decide +kernel
theorem d_Md_setCode_8 : decode b_Md_setCode 8 = .ok (.aload_n 0, 1) := by decide +kernel
theorem d_Md_setCode_9 : decode b_Md_setCode 9 = .ok (.invokevirtual 545, 3) := by decide +kernel
