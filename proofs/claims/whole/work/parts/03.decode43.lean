theorem d_Br_close_44 : decode b_Br_close 44 = .ok (.iaload, 1) := by decide +kernel
theorem d_Br_close_45 : decode b_Br_close 45 = .ok (.invokestatic 35, 3) := by decide +kernel
theorem d_Br_close_48 : decode b_Br_close 48 = .ok (.istore_n 3, 1) := by decide +kernel
theorem d_Br_close_49 : decode b_Br_close 49 = .ok (.iload_n 3, 1) := by decide +kernel
theorem d_Br_close_50 : decode b_Br_close 50 = .ok (.iconst 1, 1) := by decide +kernel
theorem d_Br_close_51 : decode b_Br_close 51 = .ok (.isub, 1) := by decide +kernel
theorem d_Br_close_52 : decode b_Br_close 52 = .ok (.istore 4, 2) := by decide +kernel
theorem d_Br_close_54 : decode b_Br_close 54 = .ok (.aload_n 0, 1) := by decide +kernel
theorem d_Br_close_55 : decode b_Br_close 55 = .ok (.getfield 21, 3) := by decide +kernel
theorem d_Br_close_58 : decode b_Br_close 58 = .ok (.iconst 2, 1) := by decide +kernel
theorem d_Br_close_59 : decode b_Br_close 59 = .ok (.iload_n 2, 1) := by decide +kernel
theorem d_Br_close_60 : decode b_Br_close 60 = .ok (.imul, 1) := by decide +kernel
theorem d_Br_close_61 : decode b_Br_close 61 = .ok (.iadd, 1) := by decide +kernel
theorem d_Br_close_62 : decode b_Br_close 62 = .ok (.iconst 1, 1) := by decide +kernel
theorem d_Br_close_63 : decode b_Br_close 63 = .ok (.iadd, 1) := by decide +kernel
theorem d_Br_close_64 : decode b_Br_close 64 = .ok (.istore 5, 2) := by decide +kernel
theorem d_Br_close_66 : decode b_Br_close 66 = .ok (.iload 5, 2) := by decide +kernel
theorem d_Br_close_68 : decode b_Br_close 68 = .ok (.iconst 1, 1) := by decide +kernel
theorem d_Br_close_69 : decode b_Br_close 69 = .ok (.iadd, 1) := by decide +kernel
theorem d_Br_close_70 : decode b_Br_close 70 = .ok (.istore 6, 2) := by decide +kernel
theorem d_Br_close_72 : decode b_Br_close 72 = .ok (.aload_n 0, 1) := by decide +kernel
theorem d_Br_close_73 : decode b_Br_close 73 = .ok (.getfield 9, 3) := by decide +kernel
theorem d_Br_close_76 : decode b_Br_close 76 = .ok (.iload_n 2, 1) := by decide +kernel
theorem d_Br_close_77 : decode b_Br_close 77 = .ok (.iaload, 1) := by decide +kernel
theorem d_Br_close_78 : decode b_Br_close 78 = .ok (.ifCond .le 7, 3) := by decide +kernel
theorem d_Br_close_85 : decode b_Br_close 85 = .ok (.iconst (-1), 1) := by decide +kernel
theorem d_Br_close_81 : decode b_Br_close 81 = .ok (.iconst 1, 1) := by decide +kernel
theorem d_Br_close_82 : decode b_Br_close 82 = .ok (.goto 4, 3) := by decide +kernel
theorem d_Br_close_6 : decode b_Br_close 6 = .ok (.iload_n 2, 1) := by decide +kernel
theorem d_Br_close_7 : decode b_Br_close 7 = .ok (.aload_n 0, 1) := by decide +kernel
theorem d_Br_close_8 : decode b_Br_close 8 = .ok (.getfield 21, 3) := by decide +kernel
theorem d_Br_close_11 : decode b_Br_close 11 = .ok (.if_icmp .ge 18, 3) := by decide +kernel
theorem d_Br_close_29 : decode b_Br_close 29 = .ok (.iconst 0, 1) := by decide +kernel
theorem d_Br_close_30 : decode b_Br_close 30 = .ok (.istore_n 2, 1) := by decide +kernel
theorem d_Br_close_14 : decode b_Br_close 14 = .ok (.aload_n 0, 1) := by decide +kernel
theorem d_Br_close_15 : decode b_Br_close 15 = .ok (.getfield 18, 3) := by decide +kernel
theorem d_Br_close_18 : decode b_Br_close 18 = .ok (.iload_n 2, 1) := by decide +kernel
theorem d_Br_close_19 : decode b_Br_close 19 = .ok (.iload_n 2, 1) := by decide +kernel
theorem d_Br_close_20 : decode b_Br_close 20 = .ok (.iconst 1, 1) := by decide +kernel
theorem d_Br_close_21 : decode b_Br_close 21 = .ok (.iadd, 1) := by decide +kernel
theorem d_Br_close_22 : decode b_Br_close 22 = .ok (.iastore, 1) := by decide +kernel
theorem d_Br_close_23 : decode b_Br_close 23 = .ok (.iinc 2 1, 3) := by decide +kernel
theorem d_Br_close_26 : decode b_Br_close 26 = .ok (.goto (-20), 3) := by decide +kernel
theorem d_Br_close_0 : decode b_Br_close 0 = .ok (.aload_n 1, 1) := by decide +kernel
theorem d_Br_close_1 : decode b_Br_close 1 = .ok (.invokevirtual 47, 3) := by decide +kernel
theorem d_Br_close_4 : decode b_Br_close 4 = .ok (.iconst 0, 1) := by decide +kernel
theorem d_Br_close_5 : decode b_Br_close 5 = .ok (.istore_n 2, 1) := by decide +kernel
theorem d_Mo_undo_108 : decode b_Mo_undo 108 = .ok (.aload_n 3, 1) := by decide +kernel
theorem d_Mo_undo_109 : decode b_Mo_undo 109 = .ok (.getfield 53, 3) := by decide +kernel
theorem d_Mo_undo_112 : decode b_Mo_undo 112 = .ok (.bipush 20, 2) := by decide +kernel
theorem d_Mo_undo_114 : decode b_Mo_undo 114 = .ok (.if_icmp .gt 8, 3) := by decide +kernel
theorem d_Mo_undo_122 : decode b_Mo_undo 122 = .ok (.iconst 0, 1) := by decide +kernel
theorem d_Mo_undo_123 : decode b_Mo_undo 123 = .ok (.ireturn, 1) := by decide +kernel
theorem d_Mo_undo_117 : decode b_Mo_undo 117 = .ok (.iload 5, 2) := by decide +kernel
theorem d_Mo_undo_119 : decode b_Mo_undo 119 = .ok (.goto 4, 3) := by decide +kernel
theorem d_Mo_undo_40 : decode b_Mo_undo 40 = .ok (.aload_n 1, 1) := by decide +kernel
theorem d_Mo_undo_41 : decode b_Mo_undo 41 = .ok (.getfield 25, 3) := by decide +kernel
theorem d_Mo_undo_44 : decode b_Mo_undo 44 = .ok (.iload 4, 2) := by decide +kernel
theorem d_Mo_undo_46 : decode b_Mo_undo 46 = .ok (.iaload, 1) := by decide +kernel
theorem d_Mo_undo_47 : decode b_Mo_undo 47 = .ok (.istore 6, 2) := by decide +kernel
theorem d_Mo_undo_49 : decode b_Mo_undo 49 = .ok (.aload_n 1, 1) := by decide +kernel
theorem d_Mo_undo_50 : decode b_Mo_undo 50 = .ok (.iload 6, 2) := by decide +kernel
theorem d_Mo_undo_52 : decode b_Mo_undo 52 = .ok (.invokevirtual 28, 3) := by decide +kernel
theorem d_Mo_undo_55 : decode b_Mo_undo 55 = .ok (.iconst 2, 1) := by decide +kernel
theorem d_Mo_undo_56 : decode b_Mo_undo 56 = .ok (.ishr, 1) := by decide +kernel
theorem d_Mo_undo_57 : decode b_Mo_undo 57 = .ok (.istore 7, 2) := by decide +kernel
theorem d_Mo_undo_59 : decode b_Mo_undo 59 = .ok (.aload_n 1, 1) := by decide +kernel
theorem d_Mo_undo_60 : decode b_Mo_undo 60 = .ok (.aload_n 1, 1) := by decide +kernel
theorem d_Mo_undo_61 : decode b_Mo_undo 61 = .ok (.iload 6, 2) := by decide +kernel
theorem d_Mo_undo_63 : decode b_Mo_undo 63 = .ok (.invokevirtual 31, 3) := by decide +kernel
theorem d_Mo_undo_66 : decode b_Mo_undo 66 = .ok (.invokevirtual 28, 3) := by decide +kernel
theorem d_Mo_undo_69 : decode b_Mo_undo 69 = .ok (.iconst 2, 1) := by decide +kernel
theorem d_Mo_undo_70 : decode b_Mo_undo 70 = .ok (.ishr, 1) := by decide +kernel
theorem d_Mo_undo_71 : decode b_Mo_undo 71 = .ok (.istore 8, 2) := by decide +kernel
theorem d_Mo_undo_73 : decode b_Mo_undo 73 = .ok (.aload_n 3, 1) := by decide +kernel
theorem d_Mo_undo_74 : decode b_Mo_undo 74 = .ok (.aload_n 2, 1) := by decide +kernel
theorem d_Mo_undo_75 : decode b_Mo_undo 75 = .ok (.invokevirtual 34, 3) := by decide +kernel
theorem d_Mo_undo_78 : decode b_Mo_undo 78 = .ok (.aload_n 3, 1) := by decide +kernel
theorem d_Mo_undo_79 : decode b_Mo_undo 79 = .ok (.iload 7, 2) := by decide +kernel
theorem d_Mo_undo_81 : decode b_Mo_undo 81 = .ok (.iload 8, 2) := by decide +kernel
theorem d_Mo_undo_83 : decode b_Mo_undo 83 = .ok (.invokestatic 40, 3) := by decide +kernel
theorem d_Mo_undo_86 : decode b_Mo_undo 86 = .ok (.invokevirtual 46, 3) := by decide +kernel
theorem d_Mo_undo_89 : decode b_Mo_undo 89 = .ok (.iload 5, 2) := by decide +kernel
theorem d_Mo_undo_91 : decode b_Mo_undo 91 = .ok (.iconst 2, 1) := by decide +kernel
theorem d_Mo_undo_92 : decode b_Mo_undo 92 = .ok (.if_icmp .ne 16, 3) := by decide +kernel
theorem d_Mo_undo_95 : decode b_Mo_undo 95 = .ok (.aload_n 3, 1) := by decide +kernel
theorem d_Mo_undo_96 : decode b_Mo_undo 96 = .ok (.iload 7, 2) := by decide +kernel
theorem d_Mo_undo_98 : decode b_Mo_undo 98 = .ok (.iload 8, 2) := by decide +kernel
theorem d_Mo_undo_100 : decode b_Mo_undo 100 = .ok (.invokestatic 50, 3) := by decide +kernel
theorem d_Mo_undo_103 : decode b_Mo_undo 103 = .ok (.iconst 1, 1) := by decide +kernel
theorem d_Mo_undo_104 : decode b_Mo_undo 104 = .ok (.isub, 1) := by decide +kernel
theorem d_Mo_undo_105 : decode b_Mo_undo 105 = .ok (.invokevirtual 46, 3) := by decide +kernel
theorem d_Mo_undo_24 : decode b_Mo_undo 24 = .ok (.istore 5, 2) := by decide +kernel
theorem d_Mo_undo_26 : decode b_Mo_undo 26 = .ok (.iload 5, 2) := by decide +kernel
theorem d_Mo_undo_28 : decode b_Mo_undo 28 = .ok (.iconst 1, 1) := by decide +kernel
theorem d_Mo_undo_29 : decode b_Mo_undo 29 = .ok (.if_icmp .eq 11, 3) := by decide +kernel
theorem d_Mo_undo_32 : decode b_Mo_undo 32 = .ok (.iload 5, 2) := by decide +kernel
theorem d_Mo_undo_34 : decode b_Mo_undo 34 = .ok (.iconst 2, 1) := by decide +kernel
theorem d_Mo_undo_35 : decode b_Mo_undo 35 = .ok (.if_icmp .eq 5, 3) := by decide +kernel
theorem d_Mo_undo_38 : decode b_Mo_undo 38 = .ok (.iconst 0, 1) := by decide +kernel
theorem d_Mo_undo_39 : decode b_Mo_undo 39 = .ok (.ireturn, 1) := by decide +kernel
theorem d_Mo_undo_23 : decode b_Mo_undo 23 = .ok (.iconst 0, 1) := by decide +kernel
theorem d_Mo_undo_0 : decode b_Mo_undo 0 = .ok (.iload 4, 2) := by decide +kernel
theorem d_Mo_undo_2 : decode b_Mo_undo 2 = .ok (.ifCond .lt 21, 3) := by decide +kernel
theorem d_Mo_undo_5 : decode b_Mo_undo 5 = .ok (.iload 4, 2) := by decide +kernel
theorem d_Mo_undo_7 : decode b_Mo_undo 7 = .ok (.aload_n 1, 1) := by decide +kernel
theorem d_Mo_undo_8 : decode b_Mo_undo 8 = .ok (.getfield 15, 3) := by decide +kernel
theorem d_Mo_undo_11 : decode b_Mo_undo 11 = .ok (.if_icmp .ge 12, 3) := by decide +kernel
theorem d_Mo_undo_14 : decode b_Mo_undo 14 = .ok (.aload_n 1, 1) := by decide +kernel
theorem d_Mo_undo_15 : decode b_Mo_undo 15 = .ok (.iload 4, 2) := by decide +kernel
theorem d_Mo_undo_17 : decode b_Mo_undo 17 = .ok (.invokevirtual 21, 3) := by decide +kernel
theorem d_Mo_undo_20 : decode b_Mo_undo 20 = .ok (.goto 4, 3) := by decide +kernel
theorem d_Mi_expand_181 : decode b_Mi_expand 181 = .ok (.iinc 4 1, 3) := by decide +kernel
theorem d_Mi_expand_184 : decode b_Mi_expand 184 = .ok (.goto (-152), 3) := by decide +kernel
theorem d_Mi_expand_164 : decode b_Mi_expand 164 = .ok (.iconst (-1), 1) := by decide +kernel
theorem d_Mi_expand_165 : decode b_Mi_expand 165 = .ok (.iconst 0, 1) := by decide +kernel
theorem d_Mi_expand_166 : decode b_Mi_expand 166 = .ok (.invokevirtual 83, 3) := by decide +kernel
theorem d_Mi_expand_169 : decode b_Mi_expand 169 = .ok (.aload_n 0, 1) := by decide +kernel
theorem d_Mi_expand_170 : decode b_Mi_expand 170 = .ok (.iload 4, 2) := by decide +kernel
theorem d_Mi_expand_172 : decode b_Mi_expand 172 = .ok (.iload 5, 2) := by decide +kernel
theorem d_Mi_expand_174 : decode b_Mi_expand 174 = .ok (.iload 8, 2) := by decide +kernel
theorem d_Mi_expand_176 : decode b_Mi_expand 176 = .ok (.iconst 1, 1) := by decide +kernel
theorem d_Mi_expand_177 : decode b_Mi_expand 177 = .ok (.iconst (-1), 1) := by decide +kernel
theorem d_Mi_expand_178 : decode b_Mi_expand 178 = .ok (.invokevirtual 83, 3) := by decide +kernel
theorem d_Mi_expand_142 : decode b_Mi_expand 142 = .ok (.iconst 0, 1) := by decide +kernel
theorem d_Mi_expand_143 : decode b_Mi_expand 143 = .ok (.iconst 1, 1) := by decide +kernel
theorem d_Mi_expand_144 : decode b_Mi_expand 144 = .ok (.invokevirtual 83, 3) := by decide +kernel
theorem d_Mi_expand_147 : decode b_Mi_expand 147 = .ok (.aload_n 0, 1) := by decide +kernel
theorem d_Mi_expand_148 : decode b_Mi_expand 148 = .ok (.iload 4, 2) := by decide +kernel
theorem d_Mi_expand_150 : decode b_Mi_expand 150 = .ok (.iload 5, 2) := by decide +kernel
theorem d_Mi_expand_152 : decode b_Mi_expand 152 = .ok (.iload 9, 2) := by decide +kernel
theorem d_Mi_expand_154 : decode b_Mi_expand 154 = .ok (.ifCond .eq 8, 3) := by decide +kernel
theorem d_Mi_expand_162 : decode b_Mi_expand 162 = .ok (.iload 6, 2) := by decide +kernel
theorem d_Mi_expand_157 : decode b_Mi_expand 157 = .ok (.iload 7, 2) := by decide +kernel
theorem d_Mi_expand_159 : decode b_Mi_expand 159 = .ok (.goto 5, 3) := by decide +kernel
theorem d_Mi_expand_123 : decode b_Mi_expand 123 = .ok (.istore 9, 2) := by decide +kernel
theorem d_Mi_expand_125 : decode b_Mi_expand 125 = .ok (.aload_n 0, 1) := by decide +kernel
theorem d_Mi_expand_126 : decode b_Mi_expand 126 = .ok (.iload 4, 2) := by decide +kernel
theorem d_Mi_expand_128 : decode b_Mi_expand 128 = .ok (.iload 5, 2) := by decide +kernel
theorem d_Mi_expand_130 : decode b_Mi_expand 130 = .ok (.iload 9, 2) := by decide +kernel
theorem d_Mi_expand_132 : decode b_Mi_expand 132 = .ok (.ifCond .eq 8, 3) := by decide +kernel
theorem d_Mi_expand_140 : decode b_Mi_expand 140 = .ok (.iload 7, 2) := by decide +kernel
theorem d_Mi_expand_135 : decode b_Mi_expand 135 = .ok (.iload 6, 2) := by decide +kernel
theorem d_Mi_expand_137 : decode b_Mi_expand 137 = .ok (.goto 5, 3) := by decide +kernel
theorem d_Mi_expand_32 : decode b_Mi_expand 32 = .ok (.iload 4, 2) := by decide +kernel
theorem d_Mi_expand_34 : decode b_Mi_expand 34 = .ok (.iload_n 3, 1) := by decide +kernel
theorem d_Mi_expand_35 : decode b_Mi_expand 35 = .ok (.if_icmp .ge 152, 3) := by decide +kernel
theorem d_Mi_expand_187 : decode b_Mi_expand 187 = .ok (.return_, 1) := by decide +kernel
theorem d_Mi_expand_38 : decode b_Mi_expand 38 = .ok (.aload_n 0, 1) := by decide +kernel
theorem d_Mi_expand_39 : decode b_Mi_expand 39 = .ok (.getfield 15, 3) := by decide +kernel
theorem d_Mi_expand_42 : decode b_Mi_expand 42 = .ok (.iload 4, 2) := by decide +kernel
theorem d_Mi_expand_44 : decode b_Mi_expand 44 = .ok (.iaload, 1) := by decide +kernel
theorem d_Mi_expand_45 : decode b_Mi_expand 45 = .ok (.iconst 1, 1) := by decide +kernel
theorem d_Mi_expand_46 : decode b_Mi_expand 46 = .ok (.if_icmp .ne 135, 3) := by decide +kernel
theorem d_Mi_expand_49 : decode b_Mi_expand 49 = .ok (.iload 4, 2) := by decide +kernel
theorem d_Mi_expand_51 : decode b_Mi_expand 51 = .ok (.invokestatic 68, 3) := by decide +kernel
theorem d_Mi_expand_54 : decode b_Mi_expand 54 = .ok (.istore 5, 2) := by decide +kernel
theorem d_Mi_expand_56 : decode b_Mi_expand 56 = .ok (.aload_n 2, 1) := by decide +kernel
theorem d_Mi_expand_57 : decode b_Mi_expand 57 = .ok (.getfield 74, 3) := by decide +kernel
theorem d_Mi_expand_60 : decode b_Mi_expand 60 = .ok (.aload_n 2, 1) := by decide +kernel
theorem d_Mi_expand_61 : decode b_Mi_expand 61 = .ok (.getfield 77, 3) := by decide +kernel
theorem d_Mi_expand_64 : decode b_Mi_expand 64 = .ok (.iconst 4, 1) := by decide +kernel
theorem d_Mi_expand_65 : decode b_Mi_expand 65 = .ok (.iload 5, 2) := by decide +kernel
theorem d_Mi_expand_67 : decode b_Mi_expand 67 = .ok (.imul, 1) := by decide +kernel
theorem d_Mi_expand_68 : decode b_Mi_expand 68 = .ok (.iaload, 1) := by decide +kernel
theorem d_Mi_expand_69 : decode b_Mi_expand 69 = .ok (.iaload, 1) := by decide +kernel
theorem d_Mi_expand_70 : decode b_Mi_expand 70 = .ok (.istore 6, 2) := by decide +kernel
theorem d_Mi_expand_72 : decode b_Mi_expand 72 = .ok (.aload_n 2, 1) := by decide +kernel
theorem d_Mi_expand_73 : decode b_Mi_expand 73 = .ok (.getfield 74, 3) := by decide +kernel
theorem d_Mi_expand_76 : decode b_Mi_expand 76 = .ok (.aload_n 2, 1) := by decide +kernel
theorem d_Mi_expand_77 : decode b_Mi_expand 77 = .ok (.getfield 77, 3) := by decide +kernel
theorem d_Mi_expand_80 : decode b_Mi_expand 80 = .ok (.iconst 4, 1) := by decide +kernel
theorem d_Mi_expand_81 : decode b_Mi_expand 81 = .ok (.iload 5, 2) := by decide +kernel
theorem d_Mi_expand_83 : decode b_Mi_expand 83 = .ok (.imul, 1) := by decide +kernel
theorem d_Mi_expand_84 : decode b_Mi_expand 84 = .ok (.iconst 2, 1) := by decide +kernel
theorem d_Mi_expand_85 : decode b_Mi_expand 85 = .ok (.iadd, 1) := by decide +kernel
theorem d_Mi_expand_86 : decode b_Mi_expand 86 = .ok (.iaload, 1) := by decide +kernel
theorem d_Mi_expand_87 : decode b_Mi_expand 87 = .ok (.iaload, 1) := by decide +kernel
theorem d_Mi_expand_88 : decode b_Mi_expand 88 = .ok (.istore 7, 2) := by decide +kernel
theorem d_Mi_expand_90 : decode b_Mi_expand 90 = .ok (.aload_n 2, 1) := by decide +kernel
theorem d_Mi_expand_91 : decode b_Mi_expand 91 = .ok (.getfield 74, 3) := by decide +kernel
theorem d_Mi_expand_94 : decode b_Mi_expand 94 = .ok (.aload_n 2, 1) := by decide +kernel
theorem d_Mi_expand_95 : decode b_Mi_expand 95 = .ok (.getfield 77, 3) := by decide +kernel
theorem d_Mi_expand_98 : decode b_Mi_expand 98 = .ok (.iconst 4, 1) := by decide +kernel
theorem d_Mi_expand_99 : decode b_Mi_expand 99 = .ok (.iload 5, 2) := by decide +kernel
theorem d_Mi_expand_101 : decode b_Mi_expand 101 = .ok (.imul, 1) := by decide +kernel
theorem d_Mi_expand_102 : decode b_Mi_expand 102 = .ok (.iconst 1, 1) := by decide +kernel
theorem d_Mi_expand_103 : decode b_Mi_expand 103 = .ok (.iadd, 1) := by decide +kernel
theorem d_Mi_expand_104 : decode b_Mi_expand 104 = .ok (.iaload, 1) := by decide +kernel
theorem d_Mi_expand_105 : decode b_Mi_expand 105 = .ok (.iaload, 1) := by decide +kernel
theorem d_Mi_expand_106 : decode b_Mi_expand 106 = .ok (.istore 8, 2) := by decide +kernel
theorem d_Mi_expand_108 : decode b_Mi_expand 108 = .ok (.aload_n 1, 1) := by decide +kernel
theorem d_Mi_expand_109 : decode b_Mi_expand 109 = .ok (.getfield 80, 3) := by decide +kernel
theorem d_Mi_expand_112 : decode b_Mi_expand 112 = .ok (.iload 5, 2) := by decide +kernel
theorem d_Mi_expand_114 : decode b_Mi_expand 114 = .ok (.iaload, 1) := by decide +kernel
theorem d_Mi_expand_115 : decode b_Mi_expand 115 = .ok (.ifCond .le 7, 3) := by decide +kernel
theorem d_Mi_expand_122 : decode b_Mi_expand 122 = .ok (.iconst 0, 1) := by decide +kernel
theorem d_Mi_expand_118 : decode b_Mi_expand 118 = .ok (.iconst 1, 1) := by decide +kernel
theorem d_Mi_expand_119 : decode b_Mi_expand 119 = .ok (.goto 4, 3) := by decide +kernel
theorem d_Mi_expand_0 : decode b_Mi_expand 0 = .ok (.aload_n 0, 1) := by decide +kernel
