theorem d_Mi_expand_1 : decode b_Mi_expand 1 = .ok (.getfield 15, 3) := by decide +kernel
theorem d_Mi_expand_4 : decode b_Mi_expand 4 = .ok (.iconst 0, 1) := by decide +kernel
theorem d_Mi_expand_5 : decode b_Mi_expand 5 = .ok (.invokestatic 58, 3) := by decide +kernel
theorem d_Mi_expand_8 : decode b_Mi_expand 8 = .ok (.aload_n 0, 1) := by decide +kernel
theorem d_Mi_expand_9 : decode b_Mi_expand 9 = .ok (.iconst 0, 1) := by decide +kernel
theorem d_Mi_expand_10 : decode b_Mi_expand 10 = .ok (.invokevirtual 64, 3) := by decide +kernel
theorem d_Mi_expand_13 : decode b_Mi_expand 13 = .ok (.aload_n 0, 1) := by decide +kernel
theorem d_Mi_expand_14 : decode b_Mi_expand 14 = .ok (.getfield 11, 3) := by decide +kernel
theorem d_Mi_expand_17 : decode b_Mi_expand 17 = .ok (.iconst 0, 1) := by decide +kernel
theorem d_Mi_expand_18 : decode b_Mi_expand 18 = .ok (.iconst 1, 1) := by decide +kernel
theorem d_Mi_expand_19 : decode b_Mi_expand 19 = .ok (.iastore, 1) := by decide +kernel
theorem d_Mi_expand_20 : decode b_Mi_expand 20 = .ok (.iconst 1, 1) := by decide +kernel
theorem d_Mi_expand_21 : decode b_Mi_expand 21 = .ok (.aload_n 0, 1) := by decide +kernel
theorem d_Mi_expand_22 : decode b_Mi_expand 22 = .ok (.getfield 35, 3) := by decide +kernel
theorem d_Mi_expand_25 : decode b_Mi_expand 25 = .ok (.ishl, 1) := by decide +kernel
theorem d_Mi_expand_26 : decode b_Mi_expand 26 = .ok (.iconst 1, 1) := by decide +kernel
theorem d_Mi_expand_27 : decode b_Mi_expand 27 = .ok (.isub, 1) := by decide +kernel
theorem d_Mi_expand_28 : decode b_Mi_expand 28 = .ok (.istore_n 3, 1) := by decide +kernel
theorem d_Mi_expand_29 : decode b_Mi_expand 29 = .ok (.iconst 0, 1) := by decide +kernel
theorem d_Mi_expand_30 : decode b_Mi_expand 30 = .ok (.istore 4, 2) := by decide +kernel
theorem d_Po_isSumOf_75 : decode b_Po_isSumOf 75 = .ok (.iinc 4 1, 3) := by decide +kernel
theorem d_Po_isSumOf_78 : decode b_Po_isSumOf 78 = .ok (.goto (-66), 3) := by decide +kernel
theorem d_Po_isSumOf_73 : decode b_Po_isSumOf 73 = .ok (.iadd, 1) := by decide +kernel
theorem d_Po_isSumOf_74 : decode b_Po_isSumOf 74 = .ok (.istore_n 3, 1) := by decide +kernel
theorem d_Po_isSumOf_12 : decode b_Po_isSumOf 12 = .ok (.iload 4, 2) := by decide +kernel
theorem d_Po_isSumOf_14 : decode b_Po_isSumOf 14 = .ok (.iload_n 2, 1) := by decide +kernel
theorem d_Po_isSumOf_15 : decode b_Po_isSumOf 15 = .ok (.if_icmp .ge 66, 3) := by decide +kernel
theorem d_Po_isSumOf_81 : decode b_Po_isSumOf 81 = .ok (.iload_n 3, 1) := by decide +kernel
theorem d_Po_isSumOf_82 : decode b_Po_isSumOf 82 = .ok (.aload_n 0, 1) := by decide +kernel
theorem d_Po_isSumOf_83 : decode b_Po_isSumOf 83 = .ok (.invokevirtual 59, 3) := by decide +kernel
theorem d_Po_isSumOf_86 : decode b_Po_isSumOf 86 = .ok (.if_icmp .ne 7, 3) := by decide +kernel
theorem d_Po_isSumOf_93 : decode b_Po_isSumOf 93 = .ok (.iconst 0, 1) := by decide +kernel
theorem d_Po_isSumOf_94 : decode b_Po_isSumOf 94 = .ok (.ireturn, 1) := by decide +kernel
theorem d_Po_isSumOf_89 : decode b_Po_isSumOf 89 = .ok (.iconst 1, 1) := by decide +kernel
theorem d_Po_isSumOf_90 : decode b_Po_isSumOf 90 = .ok (.goto 4, 3) := by decide +kernel
theorem d_Po_isSumOf_18 : decode b_Po_isSumOf 18 = .ok (.aload_n 1, 1) := by decide +kernel
theorem d_Po_isSumOf_19 : decode b_Po_isSumOf 19 = .ok (.iconst 2, 1) := by decide +kernel
theorem d_Po_isSumOf_20 : decode b_Po_isSumOf 20 = .ok (.iload 4, 2) := by decide +kernel
theorem d_Po_isSumOf_22 : decode b_Po_isSumOf 22 = .ok (.imul, 1) := by decide +kernel
theorem d_Po_isSumOf_23 : decode b_Po_isSumOf 23 = .ok (.iconst 1, 1) := by decide +kernel
theorem d_Po_isSumOf_24 : decode b_Po_isSumOf 24 = .ok (.iadd, 1) := by decide +kernel
theorem d_Po_isSumOf_25 : decode b_Po_isSumOf 25 = .ok (.invokevirtual 44, 3) := by decide +kernel
theorem d_Po_isSumOf_28 : decode b_Po_isSumOf 28 = .ok (.istore 5, 2) := by decide +kernel
theorem d_Po_isSumOf_30 : decode b_Po_isSumOf 30 = .ok (.aload_n 1, 1) := by decide +kernel
theorem d_Po_isSumOf_31 : decode b_Po_isSumOf 31 = .ok (.iload 4, 2) := by decide +kernel
theorem d_Po_isSumOf_33 : decode b_Po_isSumOf 33 = .ok (.iload 5, 2) := by decide +kernel
theorem d_Po_isSumOf_35 : decode b_Po_isSumOf 35 = .ok (.invokestatic 47, 3) := by decide +kernel
theorem d_Po_isSumOf_38 : decode b_Po_isSumOf 38 = .ok (.ifCond .eq 37, 3) := by decide +kernel
theorem d_Po_isSumOf_41 : decode b_Po_isSumOf 41 = .ok (.aload_n 0, 1) := by decide +kernel
theorem d_Po_isSumOf_42 : decode b_Po_isSumOf 42 = .ok (.aload_n 1, 1) := by decide +kernel
theorem d_Po_isSumOf_43 : decode b_Po_isSumOf 43 = .ok (.iload 4, 2) := by decide +kernel
theorem d_Po_isSumOf_45 : decode b_Po_isSumOf 45 = .ok (.iload_n 2, 1) := by decide +kernel
theorem d_Po_isSumOf_46 : decode b_Po_isSumOf 46 = .ok (.iload 5, 2) := by decide +kernel
theorem d_Po_isSumOf_48 : decode b_Po_isSumOf 48 = .ok (.invokevirtual 51, 3) := by decide +kernel
theorem d_Po_isSumOf_51 : decode b_Po_isSumOf 51 = .ok (.ifCond .ne 5, 3) := by decide +kernel
theorem d_Po_isSumOf_56 : decode b_Po_isSumOf 56 = .ok (.iload_n 3, 1) := by decide +kernel
theorem d_Po_isSumOf_57 : decode b_Po_isSumOf 57 = .ok (.aload_n 0, 1) := by decide +kernel
theorem d_Po_isSumOf_58 : decode b_Po_isSumOf 58 = .ok (.iload 5, 2) := by decide +kernel
theorem d_Po_isSumOf_60 : decode b_Po_isSumOf 60 = .ok (.invokevirtual 55, 3) := by decide +kernel
theorem d_Po_isSumOf_63 : decode b_Po_isSumOf 63 = .ok (.lconst 0, 1) := by decide +kernel
theorem d_Po_isSumOf_64 : decode b_Po_isSumOf 64 = .ok (.lcmp, 1) := by decide +kernel
theorem d_Po_isSumOf_65 : decode b_Po_isSumOf 65 = .ok (.ifCond .eq 7, 3) := by decide +kernel
theorem d_Po_isSumOf_72 : decode b_Po_isSumOf 72 = .ok (.iconst 0, 1) := by decide +kernel
theorem d_Po_isSumOf_68 : decode b_Po_isSumOf 68 = .ok (.iconst 1, 1) := by decide +kernel
theorem d_Po_isSumOf_69 : decode b_Po_isSumOf 69 = .ok (.goto 4, 3) := by decide +kernel
theorem d_Po_isSumOf_54 : decode b_Po_isSumOf 54 = .ok (.iconst 0, 1) := by decide +kernel
theorem d_Po_isSumOf_55 : decode b_Po_isSumOf 55 = .ok (.ireturn, 1) := by decide +kernel
theorem d_Po_isSumOf_0 : decode b_Po_isSumOf 0 = .ok (.aload_n 1, 1) := by decide +kernel
theorem d_Po_isSumOf_1 : decode b_Po_isSumOf 1 = .ok (.invokevirtual 39, 3) := by decide +kernel
theorem d_Po_isSumOf_4 : decode b_Po_isSumOf 4 = .ok (.iconst 2, 1) := by decide +kernel
theorem d_Po_isSumOf_5 : decode b_Po_isSumOf 5 = .ok (.idiv, 1) := by decide +kernel
theorem d_Po_isSumOf_6 : decode b_Po_isSumOf 6 = .ok (.istore_n 2, 1) := by decide +kernel
theorem d_Po_isSumOf_7 : decode b_Po_isSumOf 7 = .ok (.iconst 0, 1) := by decide +kernel
theorem d_Po_isSumOf_8 : decode b_Po_isSumOf 8 = .ok (.istore_n 3, 1) := by decide +kernel
theorem d_Po_isSumOf_9 : decode b_Po_isSumOf 9 = .ok (.iconst 0, 1) := by decide +kernel
theorem d_Po_isSumOf_10 : decode b_Po_isSumOf 10 = .ok (.istore 4, 2) := by decide +kernel
theorem d_Mo_push_150 : decode b_Mo_push 150 = .ok (.istore 9, 2) := by decide +kernel
theorem d_Mo_push_152 : decode b_Mo_push 152 = .ok (.aload_n 0, 1) := by decide +kernel
theorem d_Mo_push_153 : decode b_Mo_push 153 = .ok (.aload_n 2, 1) := by decide +kernel
theorem d_Mo_push_154 : decode b_Mo_push 154 = .ok (.iload 9, 2) := by decide +kernel
theorem d_Mo_push_156 : decode b_Mo_push 156 = .ok (.iload 5, 2) := by decide +kernel
theorem d_Mo_push_158 : decode b_Mo_push 158 = .ok (.iload_n 3, 1) := by decide +kernel
theorem d_Mo_push_159 : decode b_Mo_push 159 = .ok (.iload 4, 2) := by decide +kernel
theorem d_Mo_push_161 : decode b_Mo_push 161 = .ok (.iconst 1, 1) := by decide +kernel
theorem d_Mo_push_162 : decode b_Mo_push 162 = .ok (.invokevirtual 96, 3) := by decide +kernel
theorem d_Mo_push_165 : decode b_Mo_push 165 = .ok (.aload_n 0, 1) := by decide +kernel
theorem d_Mo_push_166 : decode b_Mo_push 166 = .ok (.aload_n 2, 1) := by decide +kernel
theorem d_Mo_push_167 : decode b_Mo_push 167 = .ok (.iload 9, 2) := by decide +kernel
theorem d_Mo_push_169 : decode b_Mo_push 169 = .ok (.ineg, 1) := by decide +kernel
theorem d_Mo_push_170 : decode b_Mo_push 170 = .ok (.iload 5, 2) := by decide +kernel
theorem d_Mo_push_172 : decode b_Mo_push 172 = .ok (.iload_n 3, 1) := by decide +kernel
theorem d_Mo_push_173 : decode b_Mo_push 173 = .ok (.iload 4, 2) := by decide +kernel
theorem d_Mo_push_175 : decode b_Mo_push 175 = .ok (.iconst 0, 1) := by decide +kernel
theorem d_Mo_push_176 : decode b_Mo_push 176 = .ok (.invokevirtual 96, 3) := by decide +kernel
theorem d_Mo_push_179 : decode b_Mo_push 179 = .ok (.iconst 1, 1) := by decide +kernel
theorem d_Mo_push_180 : decode b_Mo_push 180 = .ok (.ireturn, 1) := by decide +kernel
theorem d_Mo_push_136 : decode b_Mo_push 136 = .ok (.istore 8, 2) := by decide +kernel
theorem d_Mo_push_138 : decode b_Mo_push 138 = .ok (.iload 8, 2) := by decide +kernel
theorem d_Mo_push_140 : decode b_Mo_push 140 = .ok (.iload 5, 2) := by decide +kernel
theorem d_Mo_push_142 : decode b_Mo_push 142 = .ok (.if_icmp .ne 7, 3) := by decide +kernel
theorem d_Mo_push_149 : decode b_Mo_push 149 = .ok (.iconst (-1), 1) := by decide +kernel
theorem d_Mo_push_145 : decode b_Mo_push 145 = .ok (.iconst 1, 1) := by decide +kernel
theorem d_Mo_push_146 : decode b_Mo_push 146 = .ok (.goto 4, 3) := by decide +kernel
theorem d_Mo_push_128 : decode b_Mo_push 128 = .ok (.if_icmp .ne 7, 3) := by decide +kernel
theorem d_Mo_push_135 : decode b_Mo_push 135 = .ok (.iconst 0, 1) := by decide +kernel
theorem d_Mo_push_131 : decode b_Mo_push 131 = .ok (.iconst 1, 1) := by decide +kernel
theorem d_Mo_push_132 : decode b_Mo_push 132 = .ok (.goto 4, 3) := by decide +kernel
theorem d_Mo_push_118 : decode b_Mo_push 118 = .ok (.iload 4, 2) := by decide +kernel
theorem d_Mo_push_120 : decode b_Mo_push 120 = .ok (.ifCond .le 7, 3) := by decide +kernel
theorem d_Mo_push_127 : decode b_Mo_push 127 = .ok (.iconst 0, 1) := by decide +kernel
theorem d_Mo_push_123 : decode b_Mo_push 123 = .ok (.iconst 1, 1) := by decide +kernel
theorem d_Mo_push_124 : decode b_Mo_push 124 = .ok (.goto 4, 3) := by decide +kernel
theorem d_Mo_push_57 : decode b_Mo_push 57 = .ok (.invokevirtual 92, 3) := by decide +kernel
theorem d_Mo_push_60 : decode b_Mo_push 60 = .ok (.ifCond .ne 5, 3) := by decide +kernel
theorem d_Mo_push_65 : decode b_Mo_push 65 = .ok (.aload_n 1, 1) := by decide +kernel
theorem d_Mo_push_66 : decode b_Mo_push 66 = .ok (.aload_n 0, 1) := by decide +kernel
theorem d_Mo_push_67 : decode b_Mo_push 67 = .ok (.getfield 9, 3) := by decide +kernel
theorem d_Mo_push_70 : decode b_Mo_push 70 = .ok (.invokevirtual 78, 3) := by decide +kernel
theorem d_Mo_push_73 : decode b_Mo_push 73 = .ok (.aload_n 2, 1) := by decide +kernel
theorem d_Mo_push_74 : decode b_Mo_push 74 = .ok (.getfield 72, 3) := by decide +kernel
theorem d_Mo_push_77 : decode b_Mo_push 77 = .ok (.aload_n 1, 1) := by decide +kernel
theorem d_Mo_push_78 : decode b_Mo_push 78 = .ok (.getfield 63, 3) := by decide +kernel
theorem d_Mo_push_81 : decode b_Mo_push 81 = .ok (.iload 6, 2) := by decide +kernel
theorem d_Mo_push_83 : decode b_Mo_push 83 = .ok (.iaload, 1) := by decide +kernel
theorem d_Mo_push_84 : decode b_Mo_push 84 = .ok (.aload_n 0, 1) := by decide +kernel
theorem d_Mo_push_85 : decode b_Mo_push 85 = .ok (.getfield 9, 3) := by decide +kernel
theorem d_Mo_push_88 : decode b_Mo_push 88 = .ok (.iconst 1, 1) := by decide +kernel
theorem d_Mo_push_89 : decode b_Mo_push 89 = .ok (.iaload, 1) := by decide +kernel
theorem d_Mo_push_90 : decode b_Mo_push 90 = .ok (.iastore, 1) := by decide +kernel
theorem d_Mo_push_91 : decode b_Mo_push 91 = .ok (.aload_n 2, 1) := by decide +kernel
theorem d_Mo_push_92 : decode b_Mo_push 92 = .ok (.getfield 72, 3) := by decide +kernel
theorem d_Mo_push_95 : decode b_Mo_push 95 = .ok (.aload_n 1, 1) := by decide +kernel
theorem d_Mo_push_96 : decode b_Mo_push 96 = .ok (.getfield 63, 3) := by decide +kernel
theorem d_Mo_push_99 : decode b_Mo_push 99 = .ok (.iload 7, 2) := by decide +kernel
theorem d_Mo_push_101 : decode b_Mo_push 101 = .ok (.iaload, 1) := by decide +kernel
theorem d_Mo_push_102 : decode b_Mo_push 102 = .ok (.aload_n 0, 1) := by decide +kernel
theorem d_Mo_push_103 : decode b_Mo_push 103 = .ok (.getfield 9, 3) := by decide +kernel
theorem d_Mo_push_106 : decode b_Mo_push 106 = .ok (.iconst 3, 1) := by decide +kernel
theorem d_Mo_push_107 : decode b_Mo_push 107 = .ok (.iaload, 1) := by decide +kernel
theorem d_Mo_push_108 : decode b_Mo_push 108 = .ok (.iastore, 1) := by decide +kernel
theorem d_Mo_push_109 : decode b_Mo_push 109 = .ok (.iload_n 3, 1) := by decide +kernel
theorem d_Mo_push_110 : decode b_Mo_push 110 = .ok (.ifCond .le 7, 3) := by decide +kernel
theorem d_Mo_push_117 : decode b_Mo_push 117 = .ok (.iconst 0, 1) := by decide +kernel
theorem d_Mo_push_113 : decode b_Mo_push 113 = .ok (.iconst 1, 1) := by decide +kernel
theorem d_Mo_push_114 : decode b_Mo_push 114 = .ok (.goto 4, 3) := by decide +kernel
theorem d_Mo_push_63 : decode b_Mo_push 63 = .ok (.iconst 0, 1) := by decide +kernel
theorem d_Mo_push_64 : decode b_Mo_push 64 = .ok (.ireturn, 1) := by decide +kernel
theorem d_Mo_push_45 : decode b_Mo_push 45 = .ok (.iload 7, 2) := by decide +kernel
theorem d_Mo_push_47 : decode b_Mo_push 47 = .ok (.iload 4, 2) := by decide +kernel
theorem d_Mo_push_49 : decode b_Mo_push 49 = .ok (.ifCond .ge 7, 3) := by decide +kernel
theorem d_Mo_push_56 : decode b_Mo_push 56 = .ok (.iconst 0, 1) := by decide +kernel
theorem d_Mo_push_52 : decode b_Mo_push 52 = .ok (.iconst 1, 1) := by decide +kernel
theorem d_Mo_push_53 : decode b_Mo_push 53 = .ok (.goto 4, 3) := by decide +kernel
theorem d_Mo_push_0 : decode b_Mo_push 0 = .ok (.aload_n 1, 1) := by decide +kernel
theorem d_Mo_push_1 : decode b_Mo_push 1 = .ok (.iload_n 3, 1) := by decide +kernel
theorem d_Mo_push_2 : decode b_Mo_push 2 = .ok (.invokestatic 89, 3) := by decide +kernel
theorem d_Mo_push_5 : decode b_Mo_push 5 = .ok (.invokevirtual 86, 3) := by decide +kernel
theorem d_Mo_push_8 : decode b_Mo_push 8 = .ok (.istore 6, 2) := by decide +kernel
theorem d_Mo_push_10 : decode b_Mo_push 10 = .ok (.aload_n 1, 1) := by decide +kernel
theorem d_Mo_push_11 : decode b_Mo_push 11 = .ok (.iload 4, 2) := by decide +kernel
theorem d_Mo_push_13 : decode b_Mo_push 13 = .ok (.invokestatic 89, 3) := by decide +kernel
theorem d_Mo_push_16 : decode b_Mo_push 16 = .ok (.invokevirtual 86, 3) := by decide +kernel
theorem d_Mo_push_19 : decode b_Mo_push 19 = .ok (.istore 7, 2) := by decide +kernel
theorem d_Mo_push_21 : decode b_Mo_push 21 = .ok (.aload_n 2, 1) := by decide +kernel
theorem d_Mo_push_22 : decode b_Mo_push 22 = .ok (.getfield 75, 3) := by decide +kernel
theorem d_Mo_push_25 : decode b_Mo_push 25 = .ok (.iconst 2, 1) := by decide +kernel
theorem d_Mo_push_26 : decode b_Mo_push 26 = .ok (.iadd, 1) := by decide +kernel
theorem d_Mo_push_27 : decode b_Mo_push 27 = .ok (.bipush 20, 2) := by decide +kernel
theorem d_Mo_push_29 : decode b_Mo_push 29 = .ok (.if_icmp .gt 34, 3) := by decide +kernel
theorem d_Mo_push_32 : decode b_Mo_push 32 = .ok (.aload_n 0, 1) := by decide +kernel
theorem d_Mo_push_33 : decode b_Mo_push 33 = .ok (.aload_n 1, 1) := by decide +kernel
theorem d_Mo_push_34 : decode b_Mo_push 34 = .ok (.iload 6, 2) := by decide +kernel
theorem d_Mo_push_36 : decode b_Mo_push 36 = .ok (.iload_n 3, 1) := by decide +kernel
theorem d_Mo_push_37 : decode b_Mo_push 37 = .ok (.ifCond .ge 7, 3) := by decide +kernel
theorem d_Mo_push_44 : decode b_Mo_push 44 = .ok (.iconst 0, 1) := by decide +kernel
theorem d_Mo_push_40 : decode b_Mo_push 40 = .ok (.iconst 1, 1) := by decide +kernel
theorem d_Mo_push_41 : decode b_Mo_push 41 = .ok (.goto 4, 3) := by decide +kernel
theorem d_Di_mirror_2 : decode b_Di_mirror 2 = .ok (.iload_n 1, 1) := by decide +kernel
theorem d_Di_mirror_3 : decode b_Di_mirror 3 = .ok (.aload_n 0, 1) := by decide +kernel
theorem d_Di_mirror_4 : decode b_Di_mirror 4 = .ok (.getfield 36, 3) := by decide +kernel
theorem d_Di_mirror_7 : decode b_Di_mirror 7 = .ok (.if_icmp .ge 15, 3) := by decide +kernel
theorem d_Di_mirror_22 : decode b_Di_mirror 22 = .ok (.iconst 1, 1) := by decide +kernel
theorem d_Di_mirror_23 : decode b_Di_mirror 23 = .ok (.ireturn, 1) := by decide +kernel
theorem d_Di_mirror_10 : decode b_Di_mirror 10 = .ok (.aload_n 0, 1) := by decide +kernel
theorem d_Di_mirror_11 : decode b_Di_mirror 11 = .ok (.iload_n 1, 1) := by decide +kernel
theorem d_Di_mirror_12 : decode b_Di_mirror 12 = .ok (.invokevirtual 94, 3) := by decide +kernel
theorem d_Di_mirror_15 : decode b_Di_mirror 15 = .ok (.pop, 1) := by decide +kernel
theorem d_Di_mirror_16 : decode b_Di_mirror 16 = .ok (.iinc 1 1, 3) := by decide +kernel
theorem d_Di_mirror_19 : decode b_Di_mirror 19 = .ok (.goto (-17), 3) := by decide +kernel
theorem d_Di_mirror_0 : decode b_Di_mirror 0 = .ok (.iconst 0, 1) := by decide +kernel
theorem d_Di_mirror_1 : decode b_Di_mirror 1 = .ok (.istore_n 1, 1) := by decide +kernel
theorem d_Br_settle_96 : decode b_Br_settle 96 = .ok (.aload_n 0, 1) := by decide +kernel
theorem d_Br_settle_97 : decode b_Br_settle 97 = .ok (.dup, 1) := by decide +kernel
theorem d_Br_settle_98 : decode b_Br_settle 98 = .ok (.getfield 69, 3) := by decide +kernel
theorem d_Br_settle_101 : decode b_Br_settle 101 = .ok (.iload_n 1, 1) := by decide +kernel
theorem d_Br_settle_102 : decode b_Br_settle 102 = .ok (.iadd, 1) := by decide +kernel
theorem d_Br_settle_103 : decode b_Br_settle 103 = .ok (.putfield 69, 3) := by decide +kernel
theorem d_Br_settle_106 : decode b_Br_settle 106 = .ok (.aload_n 0, 1) := by decide +kernel
theorem d_Br_settle_107 : decode b_Br_settle 107 = .ok (.dup, 1) := by decide +kernel
theorem d_Br_settle_108 : decode b_Br_settle 108 = .ok (.getfield 66, 3) := by decide +kernel
