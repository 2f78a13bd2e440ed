theorem d_Mo_canMeet_25 : decode b_Mo_canMeet 25 = .ok (.ifCond .eq 7, 3) := by decide +kernel
theorem d_Mo_canMeet_28 : decode b_Mo_canMeet 28 = .ok (.iconst 1, 1) := by decide +kernel
theorem d_Mo_canMeet_29 : decode b_Mo_canMeet 29 = .ok (.goto 4, 3) := by decide +kernel
theorem d_Mo_canMeet_32 : decode b_Mo_canMeet 32 = .ok (.iconst 0, 1) := by decide +kernel
theorem d_Mo_canMeet_33 : decode b_Mo_canMeet 33 = .ok (.iadd, 1) := by decide +kernel
theorem d_Mo_canMeet_34 : decode b_Mo_canMeet 34 = .ok (.iaload, 1) := by decide +kernel
theorem d_Mo_canMeet_35 : decode b_Mo_canMeet 35 = .ok (.istore 6, 2) := by decide +kernel
theorem d_Mo_canMeet_37 : decode b_Mo_canMeet 37 = .ok (.aload_n 1, 1) := by decide +kernel
theorem d_Mo_canMeet_38 : decode b_Mo_canMeet 38 = .ok (.getfield 100, 3) := by decide +kernel
theorem d_Mo_canMeet_41 : decode b_Mo_canMeet 41 = .ok (.iconst 2, 1) := by decide +kernel
theorem d_Mo_canMeet_42 : decode b_Mo_canMeet 42 = .ok (.iload 4, 2) := by decide +kernel
theorem d_Mo_canMeet_44 : decode b_Mo_canMeet 44 = .ok (.imul, 1) := by decide +kernel
theorem d_Mo_canMeet_45 : decode b_Mo_canMeet 45 = .ok (.iload 5, 2) := by decide +kernel
theorem d_Mo_canMeet_47 : decode b_Mo_canMeet 47 = .ok (.ifCond .eq 7, 3) := by decide +kernel
theorem d_Mo_canMeet_50 : decode b_Mo_canMeet 50 = .ok (.iconst 1, 1) := by decide +kernel
theorem d_Mo_canMeet_51 : decode b_Mo_canMeet 51 = .ok (.goto 4, 3) := by decide +kernel
theorem d_Mo_canMeet_54 : decode b_Mo_canMeet 54 = .ok (.iconst 0, 1) := by decide +kernel
theorem d_Mo_canMeet_55 : decode b_Mo_canMeet 55 = .ok (.iadd, 1) := by decide +kernel
theorem d_Mo_canMeet_56 : decode b_Mo_canMeet 56 = .ok (.iaload, 1) := by decide +kernel
theorem d_Mo_canMeet_57 : decode b_Mo_canMeet 57 = .ok (.istore 7, 2) := by decide +kernel
theorem d_Mo_canMeet_59 : decode b_Mo_canMeet 59 = .ok (.iload 6, 2) := by decide +kernel
theorem d_Mo_canMeet_61 : decode b_Mo_canMeet 61 = .ok (.iload 7, 2) := by decide +kernel
theorem d_Mo_canMeet_63 : decode b_Mo_canMeet 63 = .ok (.if_icmp .eq 17, 3) := by decide +kernel
theorem d_Mo_canMeet_66 : decode b_Mo_canMeet 66 = .ok (.aload_n 1, 1) := by decide +kernel
theorem d_Mo_canMeet_67 : decode b_Mo_canMeet 67 = .ok (.iload_n 2, 1) := by decide +kernel
theorem d_Mo_canMeet_68 : decode b_Mo_canMeet 68 = .ok (.invokevirtual 103, 3) := by decide +kernel
theorem d_Mo_canMeet_71 : decode b_Mo_canMeet 71 = .ok (.aload_n 1, 1) := by decide +kernel
theorem d_Mo_canMeet_72 : decode b_Mo_canMeet 72 = .ok (.iload 4, 2) := by decide +kernel
theorem d_Mo_canMeet_74 : decode b_Mo_canMeet 74 = .ok (.invokevirtual 103, 3) := by decide +kernel
theorem d_Mo_canMeet_77 : decode b_Mo_canMeet 77 = .ok (.if_icmp .eq 7, 3) := by decide +kernel
theorem d_Mo_canMeet_80 : decode b_Mo_canMeet 80 = .ok (.iconst 1, 1) := by decide +kernel
theorem d_Mo_canMeet_81 : decode b_Mo_canMeet 81 = .ok (.goto 4, 3) := by decide +kernel
theorem d_Mo_canMeet_84 : decode b_Mo_canMeet 84 = .ok (.iconst 0, 1) := by decide +kernel
theorem d_Mo_canMeet_85 : decode b_Mo_canMeet 85 = .ok (.ireturn, 1) := by decide +kernel
theorem d_Mo_push_0 : decode b_Mo_push 0 = .ok (.aload_n 1, 1) := by decide +kernel
theorem d_Mo_push_1 : decode b_Mo_push 1 = .ok (.iload_n 3, 1) := by decide +kernel
theorem d_Mo_push_2 : decode b_Mo_push 2 = .ok (.invokestatic 89, 3) := by decide +kernel
theorem d_Mo_push_5 : decode b_Mo_push 5 = .ok (.invokevirtual 86, 3) := by decide +kernel
theorem d_Mo_push_8 : decode b_Mo_push 8 = .ok (.istore 6, 2) := by decide +kernel
theorem d_Mo_push_10 : decode b_Mo_push 10 = .ok (.aload_n 1, 1) := by decide +kernel
theorem d_Mo_push_11 : decode b_Mo_push 11 = .ok (.iload 4, 2) := by decide +kernel
theorem d_Mo_push_13 : decode b_Mo_push 13 = .ok (.invokestatic 89, 3) := by decide +kernel
theorem d_Mo_push_16 : decode b_Mo_push 16 = .ok (.invokevirtual 86, 3) := by decide +kernel
theorem d_Mo_push_19 : decode b_Mo_push 19 = .ok (.istore 7, 2) := by decide +kernel
theorem d_Mo_push_21 : decode b_Mo_push 21 = .ok (.aload_n 2, 1) := by decide +kernel
theorem d_Mo_push_22 : decode b_Mo_push 22 = .ok (.getfield 75, 3) := by decide +kernel
theorem d_Mo_push_25 : decode b_Mo_push 25 = .ok (.iconst 2, 1) := by decide +kernel
theorem d_Mo_push_26 : decode b_Mo_push 26 = .ok (.iadd, 1) := by decide +kernel
theorem d_Mo_push_27 : decode b_Mo_push 27 = .ok (.bipush 20, 2) := by decide +kernel
theorem d_Mo_push_29 : decode b_Mo_push 29 = .ok (.if_icmp .gt 34, 3) := by decide +kernel
theorem d_Mo_push_32 : decode b_Mo_push 32 = .ok (.aload_n 0, 1) := by decide +kernel
theorem d_Mo_push_33 : decode b_Mo_push 33 = .ok (.aload_n 1, 1) := by decide +kernel
theorem d_Mo_push_34 : decode b_Mo_push 34 = .ok (.iload 6, 2) := by decide +kernel
theorem d_Mo_push_36 : decode b_Mo_push 36 = .ok (.iload_n 3, 1) := by decide +kernel
theorem d_Mo_push_37 : decode b_Mo_push 37 = .ok (.ifCond .ge 7, 3) := by decide +kernel
theorem d_Mo_push_40 : decode b_Mo_push 40 = .ok (.iconst 1, 1) := by decide +kernel
theorem d_Mo_push_41 : decode b_Mo_push 41 = .ok (.goto 4, 3) := by decide +kernel
theorem d_Mo_push_44 : decode b_Mo_push 44 = .ok (.iconst 0, 1) := by decide +kernel
theorem d_Mo_push_45 : decode b_Mo_push 45 = .ok (.iload 7, 2) := by decide +kernel
theorem d_Mo_push_47 : decode b_Mo_push 47 = .ok (.iload 4, 2) := by decide +kernel
theorem d_Mo_push_49 : decode b_Mo_push 49 = .ok (.ifCond .ge 7, 3) := by decide +kernel
theorem d_Mo_push_52 : decode b_Mo_push 52 = .ok (.iconst 1, 1) := by decide +kernel
theorem d_Mo_push_53 : decode b_Mo_push 53 = .ok (.goto 4, 3) := by decide +kernel
theorem d_Mo_push_56 : decode b_Mo_push 56 = .ok (.iconst 0, 1) := by decide +kernel
theorem d_Mo_push_57 : decode b_Mo_push 57 = .ok (.invokevirtual 92, 3) := by decide +kernel
theorem d_Mo_push_60 : decode b_Mo_push 60 = .ok (.ifCond .ne 5, 3) := by decide +kernel
theorem d_Mo_push_63 : decode b_Mo_push 63 = .ok (.iconst 0, 1) := by decide +kernel
theorem d_Mo_push_64 : decode b_Mo_push 64 = .ok (.ireturn, 1) := by decide +kernel
theorem d_Mo_push_65 : decode b_Mo_push 65 = .ok (.aload_n 1, 1) := by decide +kernel
theorem d_Mo_push_66 : decode b_Mo_push 66 = .ok (.aload_n 0, 1) := by decide +kernel
theorem d_Mo_push_67 : decode b_Mo_push 67 = .ok (.getfield 9, 3) := by decide +kernel
theorem d_Mo_push_70 : decode b_Mo_push 70 = .ok (.invokevirtual 78, 3) := by decide +kernel
theorem d_Mo_push_73 : decode b_Mo_push 73 = .ok (.aload_n 2, 1) := by decide +kernel
theorem d_Mo_push_74 : decode b_Mo_push 74 = .ok (.getfield 72, 3) := by decide +kernel
theorem d_Mo_push_77 : decode b_Mo_push 77 = .ok (.aload_n 1, 1) := by decide +kernel
theorem d_Mo_push_78 : decode b_Mo_push 78 = .ok (.getfield 63, 3) := by decide +kernel
theorem d_Mo_push_81 : decode b_Mo_push 81 = .ok (.iload 6, 2) := by decide +kernel
theorem d_Mo_push_83 : decode b_Mo_push 83 = .ok (.iaload, 1) := by decide +kernel
theorem d_Mo_push_84 : decode b_Mo_push 84 = .ok (.aload_n 0, 1) := by decide +kernel
theorem d_Mo_push_85 : decode b_Mo_push 85 = .ok (.getfield 9, 3) := by decide +kernel
theorem d_Mo_push_88 : decode b_Mo_push 88 = .ok (.iconst 1, 1) := by decide +kernel
theorem d_Mo_push_89 : decode b_Mo_push 89 = .ok (.iaload, 1) := by decide +kernel
theorem d_Mo_push_90 : decode b_Mo_push 90 = .ok (.iastore, 1) := by decide +kernel
theorem d_Mo_push_91 : decode b_Mo_push 91 = .ok (.aload_n 2, 1) := by decide +kernel
theorem d_Mo_push_92 : decode b_Mo_push 92 = .ok (.getfield 72, 3) := by decide +kernel
theorem d_Mo_push_95 : decode b_Mo_push 95 = .ok (.aload_n 1, 1) := by decide +kernel
theorem d_Mo_push_96 : decode b_Mo_push 96 = .ok (.getfield 63, 3) := by decide +kernel
theorem d_Mo_push_99 : decode b_Mo_push 99 = .ok (.iload 7, 2) := by decide +kernel
theorem d_Mo_push_101 : decode b_Mo_push 101 = .ok (.iaload, 1) := by decide +kernel
theorem d_Mo_push_102 : decode b_Mo_push 102 = .ok (.aload_n 0, 1) := by decide +kernel
theorem d_Mo_push_103 : decode b_Mo_push 103 = .ok (.getfield 9, 3) := by decide +kernel
theorem d_Mo_push_106 : decode b_Mo_push 106 = .ok (.iconst 3, 1) := by decide +kernel
theorem d_Mo_push_107 : decode b_Mo_push 107 = .ok (.iaload, 1) := by decide +kernel
theorem d_Mo_push_108 : decode b_Mo_push 108 = .ok (.iastore, 1) := by decide +kernel
theorem d_Mo_push_109 : decode b_Mo_push 109 = .ok (.iload_n 3, 1) := by decide +kernel
theorem d_Mo_push_110 : decode b_Mo_push 110 = .ok (.ifCond .le 7, 3) := by decide +kernel
theorem d_Mo_push_113 : decode b_Mo_push 113 = .ok (.iconst 1, 1) := by decide +kernel
theorem d_Mo_push_114 : decode b_Mo_push 114 = .ok (.goto 4, 3) := by decide +kernel
theorem d_Mo_push_117 : decode b_Mo_push 117 = .ok (.iconst 0, 1) := by decide +kernel
theorem d_Mo_push_118 : decode b_Mo_push 118 = .ok (.iload 4, 2) := by decide +kernel
theorem d_Mo_push_120 : decode b_Mo_push 120 = .ok (.ifCond .le 7, 3) := by decide +kernel
theorem d_Mo_push_123 : decode b_Mo_push 123 = .ok (.iconst 1, 1) := by decide +kernel
theorem d_Mo_push_124 : decode b_Mo_push 124 = .ok (.goto 4, 3) := by decide +kernel
theorem d_Mo_push_127 : decode b_Mo_push 127 = .ok (.iconst 0, 1) := by decide +kernel
theorem d_Mo_push_128 : decode b_Mo_push 128 = .ok (.if_icmp .ne 7, 3) := by decide +kernel
theorem d_Mo_push_131 : decode b_Mo_push 131 = .ok (.iconst 1, 1) := by decide +kernel
theorem d_Mo_push_132 : decode b_Mo_push 132 = .ok (.goto 4, 3) := by decide +kernel
theorem d_Mo_push_135 : decode b_Mo_push 135 = .ok (.iconst 0, 1) := by decide +kernel
theorem d_Mo_push_136 : decode b_Mo_push 136 = .ok (.istore 8, 2) := by decide +kernel
theorem d_Mo_push_138 : decode b_Mo_push 138 = .ok (.iload 8, 2) := by decide +kernel
theorem d_Mo_push_140 : decode b_Mo_push 140 = .ok (.iload 5, 2) := by decide +kernel
theorem d_Mo_push_142 : decode b_Mo_push 142 = .ok (.if_icmp .ne 7, 3) := by decide +kernel
theorem d_Mo_push_145 : decode b_Mo_push 145 = .ok (.iconst 1, 1) := by decide +kernel
theorem d_Mo_push_146 : decode b_Mo_push 146 = .ok (.goto 4, 3) := by decide +kernel
theorem d_Mo_push_149 : decode b_Mo_push 149 = .ok (.iconst (-1), 1) := by decide +kernel
theorem d_Mo_push_150 : decode b_Mo_push 150 = .ok (.istore 9, 2) := by decide +kernel
theorem d_Mo_push_152 : decode b_Mo_push 152 = .ok (.aload_n 0, 1) := by decide +kernel
theorem d_Mo_push_153 : decode b_Mo_push 153 = .ok (.aload_n 2, 1) := by decide +kernel
theorem d_Mo_push_154 : decode b_Mo_push 154 = .ok (.iload 9, 2) := by decide +kernel
theorem d_Mo_push_156 : decode b_Mo_push 156 = .ok (.iload 5, 2) := by decide +kernel
theorem d_Mo_push_158 : decode b_Mo_push 158 = .ok (.iload_n 3, 1) := by decide +kernel
theorem d_Mo_push_159 : decode b_Mo_push 159 = .ok (.iload 4, 2) := by decide +kernel
theorem d_Mo_push_161 : decode b_Mo_push 161 = .ok (.iconst 1, 1) := by decide +kernel
theorem d_Mo_push_162 : decode b_Mo_push 162 = .ok (.invokevirtual 96, 3) := by decide +kernel
theorem d_Mo_push_165 : decode b_Mo_push 165 = .ok (.aload_n 0, 1) := by decide +kernel
theorem d_Mo_push_166 : decode b_Mo_push 166 = .ok (.aload_n 2, 1) := by decide +kernel
theorem d_Mo_push_167 : decode b_Mo_push 167 = .ok (.iload 9, 2) := by decide +kernel
theorem d_Mo_push_169 : decode b_Mo_push 169 = .ok (.ineg, 1) := by decide +kernel
theorem d_Mo_push_170 : decode b_Mo_push 170 = .ok (.iload 5, 2) := by decide +kernel
theorem d_Mo_push_172 : decode b_Mo_push 172 = .ok (.iload_n 3, 1) := by decide +kernel
theorem d_Mo_push_173 : decode b_Mo_push 173 = .ok (.iload 4, 2) := by decide +kernel
theorem d_Mo_push_175 : decode b_Mo_push 175 = .ok (.iconst 0, 1) := by decide +kernel
theorem d_Mo_push_176 : decode b_Mo_push 176 = .ok (.invokevirtual 96, 3) := by decide +kernel
theorem d_Mo_push_179 : decode b_Mo_push 179 = .ok (.iconst 1, 1) := by decide +kernel
theorem d_Mo_push_180 : decode b_Mo_push 180 = .ok (.ireturn, 1) := by decide +kernel
theorem d_Mo_pushCrossing_0 : decode b_Mo_pushCrossing 0 = .ok (.iload 4, 2) := by decide +kernel
theorem d_Mo_pushCrossing_2 : decode b_Mo_pushCrossing 2 = .ok (.ifCond .le 7, 3) := by decide +kernel
theorem d_Mo_pushCrossing_5 : decode b_Mo_pushCrossing 5 = .ok (.iconst 1, 1) := by decide +kernel
theorem d_Mo_pushCrossing_6 : decode b_Mo_pushCrossing 6 = .ok (.goto 4, 3) := by decide +kernel
theorem d_Mo_pushCrossing_9 : decode b_Mo_pushCrossing 9 = .ok (.iconst 0, 1) := by decide +kernel
theorem d_Mo_pushCrossing_10 : decode b_Mo_pushCrossing 10 = .ok (.iload 6, 2) := by decide +kernel
theorem d_Mo_pushCrossing_12 : decode b_Mo_pushCrossing 12 = .ok (.if_icmp .ne 7, 3) := by decide +kernel
theorem d_Mo_pushCrossing_15 : decode b_Mo_pushCrossing 15 = .ok (.iconst 1, 1) := by decide +kernel
theorem d_Mo_pushCrossing_16 : decode b_Mo_pushCrossing 16 = .ok (.goto 4, 3) := by decide +kernel
theorem d_Mo_pushCrossing_19 : decode b_Mo_pushCrossing 19 = .ok (.iconst 0, 1) := by decide +kernel
theorem d_Mo_pushCrossing_20 : decode b_Mo_pushCrossing 20 = .ok (.istore 7, 2) := by decide +kernel
theorem d_Mo_pushCrossing_22 : decode b_Mo_pushCrossing 22 = .ok (.iload 5, 2) := by decide +kernel
theorem d_Mo_pushCrossing_24 : decode b_Mo_pushCrossing 24 = .ok (.ifCond .le 7, 3) := by decide +kernel
theorem d_Mo_pushCrossing_27 : decode b_Mo_pushCrossing 27 = .ok (.iconst 1, 1) := by decide +kernel
theorem d_Mo_pushCrossing_28 : decode b_Mo_pushCrossing 28 = .ok (.goto 4, 3) := by decide +kernel
theorem d_Mo_pushCrossing_31 : decode b_Mo_pushCrossing 31 = .ok (.iconst 0, 1) := by decide +kernel
theorem d_Mo_pushCrossing_32 : decode b_Mo_pushCrossing 32 = .ok (.iload 6, 2) := by decide +kernel
theorem d_Mo_pushCrossing_34 : decode b_Mo_pushCrossing 34 = .ok (.if_icmp .eq 7, 3) := by decide +kernel
theorem d_Mo_pushCrossing_37 : decode b_Mo_pushCrossing 37 = .ok (.iconst 1, 1) := by decide +kernel
theorem d_Mo_pushCrossing_38 : decode b_Mo_pushCrossing 38 = .ok (.goto 4, 3) := by decide +kernel
theorem d_Mo_pushCrossing_41 : decode b_Mo_pushCrossing 41 = .ok (.iconst 0, 1) := by decide +kernel
theorem d_Mo_pushCrossing_42 : decode b_Mo_pushCrossing 42 = .ok (.istore 8, 2) := by decide +kernel
theorem d_Mo_pushCrossing_44 : decode b_Mo_pushCrossing 44 = .ok (.iload 7, 2) := by decide +kernel
theorem d_Mo_pushCrossing_46 : decode b_Mo_pushCrossing 46 = .ok (.ifCond .eq 11, 3) := by decide +kernel
theorem d_Mo_pushCrossing_49 : decode b_Mo_pushCrossing 49 = .ok (.iload 4, 2) := by decide +kernel
theorem d_Mo_pushCrossing_51 : decode b_Mo_pushCrossing 51 = .ok (.invokestatic 89, 3) := by decide +kernel
theorem d_Mo_pushCrossing_54 : decode b_Mo_pushCrossing 54 = .ok (.goto 9, 3) := by decide +kernel
theorem d_Mo_pushCrossing_57 : decode b_Mo_pushCrossing 57 = .ok (.aload_n 0, 1) := by decide +kernel
theorem d_Mo_pushCrossing_58 : decode b_Mo_pushCrossing 58 = .ok (.getfield 9, 3) := by decide +kernel
theorem d_Mo_pushCrossing_61 : decode b_Mo_pushCrossing 61 = .ok (.iconst 0, 1) := by decide +kernel
theorem d_Mo_pushCrossing_62 : decode b_Mo_pushCrossing 62 = .ok (.iaload, 1) := by decide +kernel
theorem d_Mo_pushCrossing_63 : decode b_Mo_pushCrossing 63 = .ok (.istore 9, 2) := by decide +kernel
theorem d_Mo_pushCrossing_65 : decode b_Mo_pushCrossing 65 = .ok (.iload 7, 2) := by decide +kernel
theorem d_Mo_pushCrossing_67 : decode b_Mo_pushCrossing 67 = .ok (.ifCond .eq 12, 3) := by decide +kernel
theorem d_Mo_pushCrossing_70 : decode b_Mo_pushCrossing 70 = .ok (.aload_n 0, 1) := by decide +kernel
theorem d_Mo_pushCrossing_71 : decode b_Mo_pushCrossing 71 = .ok (.getfield 9, 3) := by decide +kernel
theorem d_Mo_pushCrossing_74 : decode b_Mo_pushCrossing 74 = .ok (.iconst 0, 1) := by decide +kernel
theorem d_Mo_pushCrossing_75 : decode b_Mo_pushCrossing 75 = .ok (.iaload, 1) := by decide +kernel
theorem d_Mo_pushCrossing_76 : decode b_Mo_pushCrossing 76 = .ok (.goto 9, 3) := by decide +kernel
theorem d_Mo_pushCrossing_79 : decode b_Mo_pushCrossing 79 = .ok (.aload_n 0, 1) := by decide +kernel
theorem d_Mo_pushCrossing_80 : decode b_Mo_pushCrossing 80 = .ok (.getfield 9, 3) := by decide +kernel
theorem d_Mo_pushCrossing_83 : decode b_Mo_pushCrossing 83 = .ok (.iconst 1, 1) := by decide +kernel
theorem d_Mo_pushCrossing_84 : decode b_Mo_pushCrossing 84 = .ok (.iaload, 1) := by decide +kernel
theorem d_Mo_pushCrossing_85 : decode b_Mo_pushCrossing 85 = .ok (.istore 10, 2) := by decide +kernel
theorem d_Mo_pushCrossing_87 : decode b_Mo_pushCrossing 87 = .ok (.iload 8, 2) := by decide +kernel
theorem d_Mo_pushCrossing_89 : decode b_Mo_pushCrossing 89 = .ok (.ifCond .eq 11, 3) := by decide +kernel
theorem d_Mo_pushCrossing_92 : decode b_Mo_pushCrossing 92 = .ok (.iload 5, 2) := by decide +kernel
theorem d_Mo_pushCrossing_94 : decode b_Mo_pushCrossing 94 = .ok (.invokestatic 89, 3) := by decide +kernel
theorem d_Mo_pushCrossing_97 : decode b_Mo_pushCrossing 97 = .ok (.goto 9, 3) := by decide +kernel
theorem d_Mo_pushCrossing_100 : decode b_Mo_pushCrossing 100 = .ok (.aload_n 0, 1) := by decide +kernel
theorem d_Mo_pushCrossing_101 : decode b_Mo_pushCrossing 101 = .ok (.getfield 9, 3) := by decide +kernel
theorem d_Mo_pushCrossing_104 : decode b_Mo_pushCrossing 104 = .ok (.iconst 2, 1) := by decide +kernel
theorem d_Mo_pushCrossing_105 : decode b_Mo_pushCrossing 105 = .ok (.iaload, 1) := by decide +kernel
theorem d_Mo_pushCrossing_106 : decode b_Mo_pushCrossing 106 = .ok (.istore 11, 2) := by decide +kernel
theorem d_Mo_pushCrossing_108 : decode b_Mo_pushCrossing 108 = .ok (.iload 8, 2) := by decide +kernel
theorem d_Mo_pushCrossing_110 : decode b_Mo_pushCrossing 110 = .ok (.ifCond .eq 12, 3) := by decide +kernel
theorem d_Mo_pushCrossing_113 : decode b_Mo_pushCrossing 113 = .ok (.aload_n 0, 1) := by decide +kernel
theorem d_Mo_pushCrossing_114 : decode b_Mo_pushCrossing 114 = .ok (.getfield 9, 3) := by decide +kernel
theorem d_Mo_pushCrossing_117 : decode b_Mo_pushCrossing 117 = .ok (.iconst 2, 1) := by decide +kernel
theorem d_Mo_pushCrossing_118 : decode b_Mo_pushCrossing 118 = .ok (.iaload, 1) := by decide +kernel
theorem d_Mo_pushCrossing_119 : decode b_Mo_pushCrossing 119 = .ok (.goto 9, 3) := by decide +kernel
theorem d_Mo_pushCrossing_122 : decode b_Mo_pushCrossing 122 = .ok (.aload_n 0, 1) := by decide +kernel
theorem d_Mo_pushCrossing_123 : decode b_Mo_pushCrossing 123 = .ok (.getfield 9, 3) := by decide +kernel
theorem d_Mo_pushCrossing_126 : decode b_Mo_pushCrossing 126 = .ok (.iconst 3, 1) := by decide +kernel
theorem d_Mo_pushCrossing_127 : decode b_Mo_pushCrossing 127 = .ok (.iaload, 1) := by decide +kernel
