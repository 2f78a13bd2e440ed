theorem d_Mi_alexander_47 : decode b_Mi_alexander 47 = .ok (.bipush 9, 2) := by decide +kernel
theorem d_Mi_alexander_49 : decode b_Mi_alexander 49 = .ok (.if_icmp .le 4, 3) := by decide +kernel
theorem d_Mi_alexander_52 : decode b_Mi_alexander 52 = .ok (.return_, 1) := by decide +kernel
theorem d_Mi_alexander_53 : decode b_Mi_alexander 53 = .ok (.aload_n 0, 1) := by decide +kernel
theorem d_Mi_alexander_54 : decode b_Mi_alexander 54 = .ok (.aload_n 1, 1) := by decide +kernel
theorem d_Mi_alexander_55 : decode b_Mi_alexander 55 = .ok (.aload_n 2, 1) := by decide +kernel
theorem d_Mi_alexander_56 : decode b_Mi_alexander 56 = .ok (.invokevirtual 47, 3) := by decide +kernel
theorem d_Mi_alexander_59 : decode b_Mi_alexander 59 = .ok (.iconst 1, 1) := by decide +kernel
theorem d_Mi_alexander_60 : decode b_Mi_alexander 60 = .ok (.aload_n 0, 1) := by decide +kernel
theorem d_Mi_alexander_61 : decode b_Mi_alexander 61 = .ok (.getfield 35, 3) := by decide +kernel
theorem d_Mi_alexander_64 : decode b_Mi_alexander 64 = .ok (.ishl, 1) := by decide +kernel
theorem d_Mi_alexander_65 : decode b_Mi_alexander 65 = .ok (.iconst 1, 1) := by decide +kernel
theorem d_Mi_alexander_66 : decode b_Mi_alexander 66 = .ok (.isub, 1) := by decide +kernel
theorem d_Mi_alexander_67 : decode b_Mi_alexander 67 = .ok (.istore 4, 2) := by decide +kernel
theorem d_Mi_alexander_69 : decode b_Mi_alexander 69 = .ok (.iconst 0, 1) := by decide +kernel
theorem d_Mi_alexander_70 : decode b_Mi_alexander 70 = .ok (.istore 5, 2) := by decide +kernel
theorem d_Mi_alexander_72 : decode b_Mi_alexander 72 = .ok (.iload 5, 2) := by decide +kernel
theorem d_Mi_alexander_74 : decode b_Mi_alexander 74 = .ok (.aload_n 0, 1) := by decide +kernel
theorem d_Mi_alexander_75 : decode b_Mi_alexander 75 = .ok (.getfield 35, 3) := by decide +kernel
theorem d_Mi_alexander_78 : decode b_Mi_alexander 78 = .ok (.if_icmp .gt 40, 3) := by decide +kernel
theorem d_Mi_alexander_81 : decode b_Mi_alexander 81 = .ok (.aload_n 0, 1) := by decide +kernel
theorem d_Mi_alexander_82 : decode b_Mi_alexander 82 = .ok (.getfield 15, 3) := by decide +kernel
theorem d_Mi_alexander_85 : decode b_Mi_alexander 85 = .ok (.iload 4, 2) := by decide +kernel
theorem d_Mi_alexander_87 : decode b_Mi_alexander 87 = .ok (.iaload, 1) := by decide +kernel
theorem d_Mi_alexander_88 : decode b_Mi_alexander 88 = .ok (.iconst 1, 1) := by decide +kernel
theorem d_Mi_alexander_89 : decode b_Mi_alexander 89 = .ok (.if_icmp .ne 29, 3) := by decide +kernel
theorem d_Mi_alexander_92 : decode b_Mi_alexander 92 = .ok (.aload_n 3, 1) := by decide +kernel
theorem d_Mi_alexander_93 : decode b_Mi_alexander 93 = .ok (.iload 5, 2) := by decide +kernel
theorem d_Mi_alexander_95 : decode b_Mi_alexander 95 = .ok (.aload_n 0, 1) := by decide +kernel
theorem d_Mi_alexander_96 : decode b_Mi_alexander 96 = .ok (.getfield 11, 3) := by decide +kernel
theorem d_Mi_alexander_99 : decode b_Mi_alexander 99 = .ok (.iload 4, 2) := by decide +kernel
theorem d_Mi_alexander_101 : decode b_Mi_alexander 101 = .ok (.bipush 10, 2) := by decide +kernel
theorem d_Mi_alexander_103 : decode b_Mi_alexander 103 = .ok (.imul, 1) := by decide +kernel
theorem d_Mi_alexander_104 : decode b_Mi_alexander 104 = .ok (.iload 5, 2) := by decide +kernel
theorem d_Mi_alexander_106 : decode b_Mi_alexander 106 = .ok (.iadd, 1) := by decide +kernel
theorem d_Mi_alexander_107 : decode b_Mi_alexander 107 = .ok (.iaload, 1) := by decide +kernel
theorem d_Mi_alexander_108 : decode b_Mi_alexander 108 = .ok (.i2l, 1) := by decide +kernel
theorem d_Mi_alexander_109 : decode b_Mi_alexander 109 = .ok (.invokevirtual 51, 3) := by decide +kernel
theorem d_Mi_alexander_112 : decode b_Mi_alexander 112 = .ok (.iinc 5 1, 3) := by decide +kernel
theorem d_Mi_alexander_115 : decode b_Mi_alexander 115 = .ok (.goto (-43), 3) := by decide +kernel
theorem d_Mi_alexander_118 : decode b_Mi_alexander 118 = .ok (.aload_n 3, 1) := by decide +kernel
theorem d_Mi_alexander_119 : decode b_Mi_alexander 119 = .ok (.invokevirtual 55, 3) := by decide +kernel
theorem d_Mi_alexander_122 : decode b_Mi_alexander 122 = .ok (.return_, 1) := by decide +kernel
theorem d_Mi_expand_0 : decode b_Mi_expand 0 = .ok (.aload_n 0, 1) := by decide +kernel
theorem d_Mi_expand_1 : decode b_Mi_expand 1 = .ok (.getfield 15, 3) := by decide +kernel
theorem d_Mi_expand_4 : decode b_Mi_expand 4 = .ok (.iconst 0, 1) := by decide +kernel
theorem d_Mi_expand_5 : decode b_Mi_expand 5 = .ok (.invokestatic 58, 3) := by decide +kernel
theorem d_Mi_expand_8 : decode b_Mi_expand 8 = .ok (.aload_n 0, 1) := by decide +kernel
theorem d_Mi_expand_9 : decode b_Mi_expand 9 = .ok (.iconst 0, 1) := by decide +kernel
theorem d_Mi_expand_10 : decode b_Mi_expand 10 = .ok (.invokevirtual 64, 3) := by decide +kernel
theorem d_Mi_expand_13 : decode b_Mi_expand 13 = .ok (.aload_n 0, 1) := by decide +kernel
theorem d_Mi_expand_14 : decode b_Mi_expand 14 = .ok (.getfield 11, 3) := by decide +kernel
theorem d_Mi_expand_17 : decode b_Mi_expand 17 = .ok (.iconst 0, 1) := by decide +kernel
theorem d_Mi_expand_18 : decode b_Mi_expand 18 = .ok (.iconst 1, 1) := by decide +kernel
theorem d_Mi_expand_19 : decode b_Mi_expand 19 = .ok (.iastore, 1) := by decide +kernel
theorem d_Mi_expand_20 : decode b_Mi_expand 20 = .ok (.iconst 1, 1) := by decide +kernel
theorem d_Mi_expand_21 : decode b_Mi_expand 21 = .ok (.aload_n 0, 1) := by decide +kernel
theorem d_Mi_expand_22 : decode b_Mi_expand 22 = .ok (.getfield 35, 3) := by decide +kernel
theorem d_Mi_expand_25 : decode b_Mi_expand 25 = .ok (.ishl, 1) := by decide +kernel
theorem d_Mi_expand_26 : decode b_Mi_expand 26 = .ok (.iconst 1, 1) := by decide +kernel
theorem d_Mi_expand_27 : decode b_Mi_expand 27 = .ok (.isub, 1) := by decide +kernel
theorem d_Mi_expand_28 : decode b_Mi_expand 28 = .ok (.istore_n 3, 1) := by decide +kernel
theorem d_Mi_expand_29 : decode b_Mi_expand 29 = .ok (.iconst 0, 1) := by decide +kernel
theorem d_Mi_expand_30 : decode b_Mi_expand 30 = .ok (.istore 4, 2) := by decide +kernel
theorem d_Mi_expand_32 : decode b_Mi_expand 32 = .ok (.iload 4, 2) := by decide +kernel
theorem d_Mi_expand_34 : decode b_Mi_expand 34 = .ok (.iload_n 3, 1) := by decide +kernel
theorem d_Mi_expand_35 : decode b_Mi_expand 35 = .ok (.if_icmp .ge 152, 3) := by decide +kernel
theorem d_Mi_expand_38 : decode b_Mi_expand 38 = .ok (.aload_n 0, 1) := by decide +kernel
theorem d_Mi_expand_39 : decode b_Mi_expand 39 = .ok (.getfield 15, 3) := by decide +kernel
theorem d_Mi_expand_42 : decode b_Mi_expand 42 = .ok (.iload 4, 2) := by decide +kernel
theorem d_Mi_expand_44 : decode b_Mi_expand 44 = .ok (.iaload, 1) := by decide +kernel
theorem d_Mi_expand_45 : decode b_Mi_expand 45 = .ok (.iconst 1, 1) := by decide +kernel
theorem d_Mi_expand_46 : decode b_Mi_expand 46 = .ok (.if_icmp .ne 135, 3) := by decide +kernel
theorem d_Mi_expand_49 : decode b_Mi_expand 49 = .ok (.iload 4, 2) := by decide +kernel
theorem d_Mi_expand_51 : decode b_Mi_expand 51 = .ok (.invokestatic 68, 3) := by decide +kernel
theorem d_Mi_expand_54 : decode b_Mi_expand 54 = .ok (.istore 5, 2) := by decide +kernel
theorem d_Mi_expand_56 : decode b_Mi_expand 56 = .ok (.aload_n 2, 1) := by decide +kernel
theorem d_Mi_expand_57 : decode b_Mi_expand 57 = .ok (.getfield 74, 3) := by decide +kernel
theorem d_Mi_expand_60 : decode b_Mi_expand 60 = .ok (.aload_n 2, 1) := by decide +kernel
theorem d_Mi_expand_61 : decode b_Mi_expand 61 = .ok (.getfield 77, 3) := by decide +kernel
theorem d_Mi_expand_64 : decode b_Mi_expand 64 = .ok (.iconst 4, 1) := by decide +kernel
theorem d_Mi_expand_65 : decode b_Mi_expand 65 = .ok (.iload 5, 2) := by decide +kernel
theorem d_Mi_expand_67 : decode b_Mi_expand 67 = .ok (.imul, 1) := by decide +kernel
theorem d_Mi_expand_68 : decode b_Mi_expand 68 = .ok (.iaload, 1) := by decide +kernel
theorem d_Mi_expand_69 : decode b_Mi_expand 69 = .ok (.iaload, 1) := by decide +kernel
theorem d_Mi_expand_70 : decode b_Mi_expand 70 = .ok (.istore 6, 2) := by decide +kernel
theorem d_Mi_expand_72 : decode b_Mi_expand 72 = .ok (.aload_n 2, 1) := by decide +kernel
theorem d_Mi_expand_73 : decode b_Mi_expand 73 = .ok (.getfield 74, 3) := by decide +kernel
theorem d_Mi_expand_76 : decode b_Mi_expand 76 = .ok (.aload_n 2, 1) := by decide +kernel
theorem d_Mi_expand_77 : decode b_Mi_expand 77 = .ok (.getfield 77, 3) := by decide +kernel
theorem d_Mi_expand_80 : decode b_Mi_expand 80 = .ok (.iconst 4, 1) := by decide +kernel
theorem d_Mi_expand_81 : decode b_Mi_expand 81 = .ok (.iload 5, 2) := by decide +kernel
theorem d_Mi_expand_83 : decode b_Mi_expand 83 = .ok (.imul, 1) := by decide +kernel
theorem d_Mi_expand_84 : decode b_Mi_expand 84 = .ok (.iconst 2, 1) := by decide +kernel
theorem d_Mi_expand_85 : decode b_Mi_expand 85 = .ok (.iadd, 1) := by decide +kernel
theorem d_Mi_expand_86 : decode b_Mi_expand 86 = .ok (.iaload, 1) := by decide +kernel
theorem d_Mi_expand_87 : decode b_Mi_expand 87 = .ok (.iaload, 1) := by decide +kernel
theorem d_Mi_expand_88 : decode b_Mi_expand 88 = .ok (.istore 7, 2) := by decide +kernel
theorem d_Mi_expand_90 : decode b_Mi_expand 90 = .ok (.aload_n 2, 1) := by decide +kernel
theorem d_Mi_expand_91 : decode b_Mi_expand 91 = .ok (.getfield 74, 3) := by decide +kernel
theorem d_Mi_expand_94 : decode b_Mi_expand 94 = .ok (.aload_n 2, 1) := by decide +kernel
theorem d_Mi_expand_95 : decode b_Mi_expand 95 = .ok (.getfield 77, 3) := by decide +kernel
theorem d_Mi_expand_98 : decode b_Mi_expand 98 = .ok (.iconst 4, 1) := by decide +kernel
theorem d_Mi_expand_99 : decode b_Mi_expand 99 = .ok (.iload 5, 2) := by decide +kernel
theorem d_Mi_expand_101 : decode b_Mi_expand 101 = .ok (.imul, 1) := by decide +kernel
theorem d_Mi_expand_102 : decode b_Mi_expand 102 = .ok (.iconst 1, 1) := by decide +kernel
theorem d_Mi_expand_103 : decode b_Mi_expand 103 = .ok (.iadd, 1) := by decide +kernel
theorem d_Mi_expand_104 : decode b_Mi_expand 104 = .ok (.iaload, 1) := by decide +kernel
theorem d_Mi_expand_105 : decode b_Mi_expand 105 = .ok (.iaload, 1) := by decide +kernel
theorem d_Mi_expand_106 : decode b_Mi_expand 106 = .ok (.istore 8, 2) := by decide +kernel
theorem d_Mi_expand_108 : decode b_Mi_expand 108 = .ok (.aload_n 1, 1) := by decide +kernel
theorem d_Mi_expand_109 : decode b_Mi_expand 109 = .ok (.getfield 80, 3) := by decide +kernel
theorem d_Mi_expand_112 : decode b_Mi_expand 112 = .ok (.iload 5, 2) := by decide +kernel
theorem d_Mi_expand_114 : decode b_Mi_expand 114 = .ok (.iaload, 1) := by decide +kernel
theorem d_Mi_expand_115 : decode b_Mi_expand 115 = .ok (.ifCond .le 7, 3) := by decide +kernel
theorem d_Mi_expand_118 : decode b_Mi_expand 118 = .ok (.iconst 1, 1) := by decide +kernel
theorem d_Mi_expand_119 : decode b_Mi_expand 119 = .ok (.goto 4, 3) := by decide +kernel
theorem d_Mi_expand_122 : decode b_Mi_expand 122 = .ok (.iconst 0, 1) := by decide +kernel
theorem d_Mi_expand_123 : decode b_Mi_expand 123 = .ok (.istore 9, 2) := by decide +kernel
theorem d_Mi_expand_125 : decode b_Mi_expand 125 = .ok (.aload_n 0, 1) := by decide +kernel
theorem d_Mi_expand_126 : decode b_Mi_expand 126 = .ok (.iload 4, 2) := by decide +kernel
theorem d_Mi_expand_128 : decode b_Mi_expand 128 = .ok (.iload 5, 2) := by decide +kernel
theorem d_Mi_expand_130 : decode b_Mi_expand 130 = .ok (.iload 9, 2) := by decide +kernel
theorem d_Mi_expand_132 : decode b_Mi_expand 132 = .ok (.ifCond .eq 8, 3) := by decide +kernel
theorem d_Mi_expand_135 : decode b_Mi_expand 135 = .ok (.iload 6, 2) := by decide +kernel
theorem d_Mi_expand_137 : decode b_Mi_expand 137 = .ok (.goto 5, 3) := by decide +kernel
theorem d_Mi_expand_140 : decode b_Mi_expand 140 = .ok (.iload 7, 2) := by decide +kernel
theorem d_Mi_expand_142 : decode b_Mi_expand 142 = .ok (.iconst 0, 1) := by decide +kernel
theorem d_Mi_expand_143 : decode b_Mi_expand 143 = .ok (.iconst 1, 1) := by decide +kernel
theorem d_Mi_expand_144 : decode b_Mi_expand 144 = .ok (.invokevirtual 83, 3) := by decide +kernel
theorem d_Mi_expand_147 : decode b_Mi_expand 147 = .ok (.aload_n 0, 1) := by decide +kernel
theorem d_Mi_expand_148 : decode b_Mi_expand 148 = .ok (.iload 4, 2) := by decide +kernel
theorem d_Mi_expand_150 : decode b_Mi_expand 150 = .ok (.iload 5, 2) := by decide +kernel
theorem d_Mi_expand_152 : decode b_Mi_expand 152 = .ok (.iload 9, 2) := by decide +kernel
theorem d_Mi_expand_154 : decode b_Mi_expand 154 = .ok (.ifCond .eq 8, 3) := by decide +kernel
theorem d_Mi_expand_157 : decode b_Mi_expand 157 = .ok (.iload 7, 2) := by decide +kernel
theorem d_Mi_expand_159 : decode b_Mi_expand 159 = .ok (.goto 5, 3) := by decide +kernel
theorem d_Mi_expand_162 : decode b_Mi_expand 162 = .ok (.iload 6, 2) := by decide +kernel
theorem d_Mi_expand_164 : decode b_Mi_expand 164 = .ok (.iconst (-1), 1) := by decide +kernel
theorem d_Mi_expand_165 : decode b_Mi_expand 165 = .ok (.iconst 0, 1) := by decide +kernel
theorem d_Mi_expand_166 : decode b_Mi_expand 166 = .ok (.invokevirtual 83, 3) := by decide +kernel
theorem d_Mi_expand_169 : decode b_Mi_expand 169 = .ok (.aload_n 0, 1) := by decide +kernel
theorem d_Mi_expand_170 : decode b_Mi_expand 170 = .ok (.iload 4, 2) := by decide +kernel
theorem d_Mi_expand_172 : decode b_Mi_expand 172 = .ok (.iload 5, 2) := by decide +kernel
theorem d_Mi_expand_174 : decode b_Mi_expand 174 = .ok (.iload 8, 2) := by decide +kernel
theorem d_Mi_expand_176 : decode b_Mi_expand 176 = .ok (.iconst 1, 1) := by decide +kernel
theorem d_Mi_expand_177 : decode b_Mi_expand 177 = .ok (.iconst (-1), 1) := by decide +kernel
theorem d_Mi_expand_178 : decode b_Mi_expand 178 = .ok (.invokevirtual 83, 3) := by decide +kernel
theorem d_Mi_expand_181 : decode b_Mi_expand 181 = .ok (.iinc 4 1, 3) := by decide +kernel
theorem d_Mi_expand_184 : decode b_Mi_expand 184 = .ok (.goto (-152), 3) := by decide +kernel
theorem d_Mi_expand_187 : decode b_Mi_expand 187 = .ok (.return_, 1) := by decide +kernel
theorem d_Mi_reach_0 : decode b_Mi_reach 0 = .ok (.aload_n 0, 1) := by decide +kernel
theorem d_Mi_reach_1 : decode b_Mi_reach 1 = .ok (.getfield 15, 3) := by decide +kernel
theorem d_Mi_reach_4 : decode b_Mi_reach 4 = .ok (.iload_n 1, 1) := by decide +kernel
theorem d_Mi_reach_5 : decode b_Mi_reach 5 = .ok (.iaload, 1) := by decide +kernel
theorem d_Mi_reach_6 : decode b_Mi_reach 6 = .ok (.ifCond .ne 36, 3) := by decide +kernel
theorem d_Mi_reach_9 : decode b_Mi_reach 9 = .ok (.aload_n 0, 1) := by decide +kernel
theorem d_Mi_reach_10 : decode b_Mi_reach 10 = .ok (.getfield 15, 3) := by decide +kernel
theorem d_Mi_reach_13 : decode b_Mi_reach 13 = .ok (.iload_n 1, 1) := by decide +kernel
theorem d_Mi_reach_14 : decode b_Mi_reach 14 = .ok (.iconst 1, 1) := by decide +kernel
theorem d_Mi_reach_15 : decode b_Mi_reach 15 = .ok (.iastore, 1) := by decide +kernel
theorem d_Mi_reach_16 : decode b_Mi_reach 16 = .ok (.iconst 0, 1) := by decide +kernel
theorem d_Mi_reach_17 : decode b_Mi_reach 17 = .ok (.istore_n 2, 1) := by decide +kernel
theorem d_Mi_reach_18 : decode b_Mi_reach 18 = .ok (.iload_n 2, 1) := by decide +kernel
theorem d_Mi_reach_19 : decode b_Mi_reach 19 = .ok (.bipush 10, 2) := by decide +kernel
theorem d_Mi_reach_21 : decode b_Mi_reach 21 = .ok (.if_icmp .ge 21, 3) := by decide +kernel
theorem d_Mi_reach_24 : decode b_Mi_reach 24 = .ok (.aload_n 0, 1) := by decide +kernel
theorem d_Mi_reach_25 : decode b_Mi_reach 25 = .ok (.getfield 11, 3) := by decide +kernel
theorem d_Mi_reach_28 : decode b_Mi_reach 28 = .ok (.iload_n 1, 1) := by decide +kernel
theorem d_Mi_reach_29 : decode b_Mi_reach 29 = .ok (.bipush 10, 2) := by decide +kernel
theorem d_Mi_reach_31 : decode b_Mi_reach 31 = .ok (.imul, 1) := by decide +kernel
theorem d_Mi_reach_32 : decode b_Mi_reach 32 = .ok (.iload_n 2, 1) := by decide +kernel
theorem d_Mi_reach_33 : decode b_Mi_reach 33 = .ok (.iadd, 1) := by decide +kernel
theorem d_Mi_reach_34 : decode b_Mi_reach 34 = .ok (.iconst 0, 1) := by decide +kernel
theorem d_Mi_reach_35 : decode b_Mi_reach 35 = .ok (.iastore, 1) := by decide +kernel
theorem d_Mi_reach_36 : decode b_Mi_reach 36 = .ok (.iinc 2 1, 3) := by decide +kernel
theorem d_Mi_reach_39 : decode b_Mi_reach 39 = .ok (.goto (-21), 3) := by decide +kernel
theorem d_Mi_reach_42 : decode b_Mi_reach 42 = .ok (.return_, 1) := by decide +kernel
theorem d_Mo_init_0 : decode b_Mo_init 0 = .ok (.aload_n 0, 1) := by decide +kernel
theorem d_Mo_init_1 : decode b_Mo_init 1 = .ok (.invokespecial 3, 3) := by decide +kernel
theorem d_Mo_init_4 : decode b_Mo_init 4 = .ok (.aload_n 0, 1) := by decide +kernel
theorem d_Mo_init_5 : decode b_Mo_init 5 = .ok (.iconst 4, 1) := by decide +kernel
theorem d_Mo_init_6 : decode b_Mo_init 6 = .ok (.newarray .int, 2) := by decide +kernel
theorem d_Mo_init_8 : decode b_Mo_init 8 = .ok (.putfield 9, 3) := by decide +kernel
theorem d_Mo_init_11 : decode b_Mo_init 11 = .ok (.return_, 1) := by decide +kernel
theorem d_Mo_canMeet_0 : decode b_Mo_canMeet 0 = .ok (.iload_n 2, 1) := by decide +kernel
theorem d_Mo_canMeet_1 : decode b_Mo_canMeet 1 = .ok (.ifCond .lt 14, 3) := by decide +kernel
theorem d_Mo_canMeet_4 : decode b_Mo_canMeet 4 = .ok (.iload 4, 2) := by decide +kernel
theorem d_Mo_canMeet_6 : decode b_Mo_canMeet 6 = .ok (.ifCond .lt 9, 3) := by decide +kernel
theorem d_Mo_canMeet_9 : decode b_Mo_canMeet 9 = .ok (.iload_n 2, 1) := by decide +kernel
theorem d_Mo_canMeet_10 : decode b_Mo_canMeet 10 = .ok (.iload 4, 2) := by decide +kernel
theorem d_Mo_canMeet_12 : decode b_Mo_canMeet 12 = .ok (.if_icmp .ne 5, 3) := by decide +kernel
theorem d_Mo_canMeet_15 : decode b_Mo_canMeet 15 = .ok (.iconst 0, 1) := by decide +kernel
theorem d_Mo_canMeet_16 : decode b_Mo_canMeet 16 = .ok (.ireturn, 1) := by decide +kernel
theorem d_Mo_canMeet_17 : decode b_Mo_canMeet 17 = .ok (.aload_n 1, 1) := by decide +kernel
theorem d_Mo_canMeet_18 : decode b_Mo_canMeet 18 = .ok (.getfield 100, 3) := by decide +kernel
theorem d_Mo_canMeet_21 : decode b_Mo_canMeet 21 = .ok (.iconst 2, 1) := by decide +kernel
theorem d_Mo_canMeet_22 : decode b_Mo_canMeet 22 = .ok (.iload_n 2, 1) := by decide +kernel
theorem d_Mo_canMeet_23 : decode b_Mo_canMeet 23 = .ok (.imul, 1) := by decide +kernel
theorem d_Mo_canMeet_24 : decode b_Mo_canMeet 24 = .ok (.iload_n 3, 1) := by decide +kernel
