theorem d_Sh_clear_11 : decode b_Sh_clear 11 = .ok (.iconst 0, 1) := by decide +kernel
theorem d_Sh_clear_12 : decode b_Sh_clear 12 = .ok (.putfield 55, 3) := by decide +kernel
theorem d_Sh_clear_15 : decode b_Sh_clear 15 = .ok (.aload_n 0, 1) := by decide +kernel
theorem d_Sh_clear_16 : decode b_Sh_clear 16 = .ok (.iconst 0, 1) := by decide +kernel
theorem d_Sh_clear_17 : decode b_Sh_clear 17 = .ok (.putfield 58, 3) := by decide +kernel
theorem d_Sh_clear_20 : decode b_Sh_clear 20 = .ok (.aload_n 0, 1) := by decide +kernel
theorem d_Sh_clear_21 : decode b_Sh_clear 21 = .ok (.iconst 0, 1) := by decide +kernel
theorem d_Sh_clear_22 : decode b_Sh_clear 22 = .ok (.putfield 61, 3) := by decide +kernel
theorem d_Sh_clear_25 : decode b_Sh_clear 25 = .ok (.aload_n 0, 1) := by decide +kernel
theorem d_Sh_clear_26 : decode b_Sh_clear 26 = .ok (.iconst 0, 1) := by decide +kernel
theorem d_Sh_clear_27 : decode b_Sh_clear 27 = .ok (.putfield 64, 3) := by decide +kernel
theorem d_Sh_clear_30 : decode b_Sh_clear 30 = .ok (.return_, 1) := by decide +kernel
theorem d_Sh_dartNumber_0 : decode b_Sh_dartNumber 0 = .ok (.aload_n 0, 1) := by decide +kernel
theorem d_Sh_dartNumber_1 : decode b_Sh_dartNumber 1 = .ok (.getfield 15, 3) := by decide +kernel
theorem d_Sh_dartNumber_4 : decode b_Sh_dartNumber 4 = .ok (.iload_n 1, 1) := by decide +kernel
theorem d_Sh_dartNumber_5 : decode b_Sh_dartNumber 5 = .ok (.iconst 1, 1) := by decide +kernel
theorem d_Sh_dartNumber_6 : decode b_Sh_dartNumber 6 = .ok (.ishr, 1) := by decide +kernel
theorem d_Sh_dartNumber_7 : decode b_Sh_dartNumber 7 = .ok (.iaload, 1) := by decide +kernel
theorem d_Sh_dartNumber_8 : decode b_Sh_dartNumber 8 = .ok (.istore_n 2, 1) := by decide +kernel
theorem d_Sh_dartNumber_9 : decode b_Sh_dartNumber 9 = .ok (.iload_n 1, 1) := by decide +kernel
theorem d_Sh_dartNumber_10 : decode b_Sh_dartNumber 10 = .ok (.iconst 1, 1) := by decide +kernel
theorem d_Sh_dartNumber_11 : decode b_Sh_dartNumber 11 = .ok (.iand, 1) := by decide +kernel
theorem d_Sh_dartNumber_12 : decode b_Sh_dartNumber 12 = .ok (.ifCond .ne 7, 3) := by decide +kernel
theorem d_Sh_dartNumber_15 : decode b_Sh_dartNumber 15 = .ok (.iload_n 2, 1) := by decide +kernel
theorem d_Sh_dartNumber_16 : decode b_Sh_dartNumber 16 = .ok (.goto 5, 3) := by decide +kernel
theorem d_Sh_dartNumber_19 : decode b_Sh_dartNumber 19 = .ok (.iload_n 2, 1) := by decide +kernel
theorem d_Sh_dartNumber_20 : decode b_Sh_dartNumber 20 = .ok (.ineg, 1) := by decide +kernel
theorem d_Sh_dartNumber_21 : decode b_Sh_dartNumber 21 = .ok (.ireturn, 1) := by decide +kernel
theorem d_Sh_deed_0 : decode b_Sh_deed 0 = .ok (.aload_n 0, 1) := by decide +kernel
theorem d_Sh_deed_1 : decode b_Sh_deed 1 = .ok (.getfield 42, 3) := by decide +kernel
theorem d_Sh_deed_4 : decode b_Sh_deed 4 = .ok (.iload_n 1, 1) := by decide +kernel
theorem d_Sh_deed_5 : decode b_Sh_deed 5 = .ok (.iaload, 1) := by decide +kernel
theorem d_Sh_deed_6 : decode b_Sh_deed 6 = .ok (.istore_n 2, 1) := by decide +kernel
theorem d_Sh_deed_7 : decode b_Sh_deed 7 = .ok (.iload_n 2, 1) := by decide +kernel
theorem d_Sh_deed_8 : decode b_Sh_deed 8 = .ok (.iconst 1, 1) := by decide +kernel
theorem d_Sh_deed_9 : decode b_Sh_deed 9 = .ok (.if_icmp .ne 5, 3) := by decide +kernel
theorem d_Sh_deed_12 : decode b_Sh_deed 12 = .ok (.iconst 1, 1) := by decide +kernel
theorem d_Sh_deed_13 : decode b_Sh_deed 13 = .ok (.ireturn, 1) := by decide +kernel
theorem d_Sh_deed_14 : decode b_Sh_deed 14 = .ok (.iload_n 2, 1) := by decide +kernel
theorem d_Sh_deed_15 : decode b_Sh_deed 15 = .ok (.iconst 3, 1) := by decide +kernel
theorem d_Sh_deed_16 : decode b_Sh_deed 16 = .ok (.if_icmp .le 5, 3) := by decide +kernel
theorem d_Sh_deed_19 : decode b_Sh_deed 19 = .ok (.iconst 0, 1) := by decide +kernel
theorem d_Sh_deed_20 : decode b_Sh_deed 20 = .ok (.ireturn, 1) := by decide +kernel
theorem d_Sh_deed_21 : decode b_Sh_deed 21 = .ok (.iconst 0, 1) := by decide +kernel
theorem d_Sh_deed_22 : decode b_Sh_deed 22 = .ok (.istore_n 3, 1) := by decide +kernel
theorem d_Sh_deed_23 : decode b_Sh_deed 23 = .ok (.iconst 0, 1) := by decide +kernel
theorem d_Sh_deed_24 : decode b_Sh_deed 24 = .ok (.istore 4, 2) := by decide +kernel
theorem d_Sh_deed_26 : decode b_Sh_deed 26 = .ok (.iconst 0, 1) := by decide +kernel
theorem d_Sh_deed_27 : decode b_Sh_deed 27 = .ok (.istore 5, 2) := by decide +kernel
theorem d_Sh_deed_29 : decode b_Sh_deed 29 = .ok (.aload_n 0, 1) := by decide +kernel
theorem d_Sh_deed_30 : decode b_Sh_deed 30 = .ok (.getfield 39, 3) := by decide +kernel
theorem d_Sh_deed_33 : decode b_Sh_deed 33 = .ok (.iload_n 1, 1) := by decide +kernel
theorem d_Sh_deed_34 : decode b_Sh_deed 34 = .ok (.iaload, 1) := by decide +kernel
theorem d_Sh_deed_35 : decode b_Sh_deed 35 = .ok (.istore 6, 2) := by decide +kernel
theorem d_Sh_deed_37 : decode b_Sh_deed 37 = .ok (.iconst 0, 1) := by decide +kernel
theorem d_Sh_deed_38 : decode b_Sh_deed 38 = .ok (.istore 7, 2) := by decide +kernel
theorem d_Sh_deed_40 : decode b_Sh_deed 40 = .ok (.iload 7, 2) := by decide +kernel
theorem d_Sh_deed_42 : decode b_Sh_deed 42 = .ok (.iload_n 2, 1) := by decide +kernel
theorem d_Sh_deed_43 : decode b_Sh_deed 43 = .ok (.if_icmp .ge 108, 3) := by decide +kernel
theorem d_Sh_deed_46 : decode b_Sh_deed 46 = .ok (.iload 6, 2) := by decide +kernel
theorem d_Sh_deed_48 : decode b_Sh_deed 48 = .ok (.iconst 1, 1) := by decide +kernel
theorem d_Sh_deed_49 : decode b_Sh_deed 49 = .ok (.ishr, 1) := by decide +kernel
theorem d_Sh_deed_50 : decode b_Sh_deed 50 = .ok (.istore 8, 2) := by decide +kernel
theorem d_Sh_deed_52 : decode b_Sh_deed 52 = .ok (.iload_n 3, 1) := by decide +kernel
theorem d_Sh_deed_53 : decode b_Sh_deed 53 = .ok (.aload_n 0, 1) := by decide +kernel
theorem d_Sh_deed_54 : decode b_Sh_deed 54 = .ok (.getfield 18, 3) := by decide +kernel
theorem d_Sh_deed_57 : decode b_Sh_deed 57 = .ok (.iload 8, 2) := by decide +kernel
theorem d_Sh_deed_59 : decode b_Sh_deed 59 = .ok (.iaload, 1) := by decide +kernel
theorem d_Sh_deed_60 : decode b_Sh_deed 60 = .ok (.invokestatic 114, 3) := by decide +kernel
theorem d_Sh_deed_63 : decode b_Sh_deed 63 = .ok (.ifCond .eq 20, 3) := by decide +kernel
theorem d_Sh_deed_66 : decode b_Sh_deed 66 = .ok (.aload_n 0, 1) := by decide +kernel
theorem d_Sh_deed_67 : decode b_Sh_deed 67 = .ok (.getfield 21, 3) := by decide +kernel
theorem d_Sh_deed_70 : decode b_Sh_deed 70 = .ok (.iload 8, 2) := by decide +kernel
theorem d_Sh_deed_72 : decode b_Sh_deed 72 = .ok (.iaload, 1) := by decide +kernel
theorem d_Sh_deed_73 : decode b_Sh_deed 73 = .ok (.invokestatic 114, 3) := by decide +kernel
theorem d_Sh_deed_76 : decode b_Sh_deed 76 = .ok (.ifCond .eq 7, 3) := by decide +kernel
theorem d_Sh_deed_79 : decode b_Sh_deed 79 = .ok (.iconst 1, 1) := by decide +kernel
theorem d_Sh_deed_80 : decode b_Sh_deed 80 = .ok (.goto 4, 3) := by decide +kernel
theorem d_Sh_deed_83 : decode b_Sh_deed 83 = .ok (.iconst 0, 1) := by decide +kernel
theorem d_Sh_deed_84 : decode b_Sh_deed 84 = .ok (.iadd, 1) := by decide +kernel
theorem d_Sh_deed_85 : decode b_Sh_deed 85 = .ok (.istore_n 3, 1) := by decide +kernel
theorem d_Sh_deed_86 : decode b_Sh_deed 86 = .ok (.iload 4, 2) := by decide +kernel
theorem d_Sh_deed_88 : decode b_Sh_deed 88 = .ok (.aload_n 0, 1) := by decide +kernel
theorem d_Sh_deed_89 : decode b_Sh_deed 89 = .ok (.getfield 18, 3) := by decide +kernel
theorem d_Sh_deed_92 : decode b_Sh_deed 92 = .ok (.iload 8, 2) := by decide +kernel
theorem d_Sh_deed_94 : decode b_Sh_deed 94 = .ok (.iaload, 1) := by decide +kernel
theorem d_Sh_deed_95 : decode b_Sh_deed 95 = .ok (.invokestatic 114, 3) := by decide +kernel
theorem d_Sh_deed_98 : decode b_Sh_deed 98 = .ok (.ifCond .ne 16, 3) := by decide +kernel
theorem d_Sh_deed_101 : decode b_Sh_deed 101 = .ok (.aload_n 0, 1) := by decide +kernel
theorem d_Sh_deed_102 : decode b_Sh_deed 102 = .ok (.getfield 21, 3) := by decide +kernel
theorem d_Sh_deed_105 : decode b_Sh_deed 105 = .ok (.iload 8, 2) := by decide +kernel
theorem d_Sh_deed_107 : decode b_Sh_deed 107 = .ok (.iaload, 1) := by decide +kernel
theorem d_Sh_deed_108 : decode b_Sh_deed 108 = .ok (.invokestatic 114, 3) := by decide +kernel
theorem d_Sh_deed_111 : decode b_Sh_deed 111 = .ok (.ifCond .eq 7, 3) := by decide +kernel
theorem d_Sh_deed_114 : decode b_Sh_deed 114 = .ok (.iconst 0, 1) := by decide +kernel
theorem d_Sh_deed_115 : decode b_Sh_deed 115 = .ok (.goto 4, 3) := by decide +kernel
theorem d_Sh_deed_118 : decode b_Sh_deed 118 = .ok (.iconst 1, 1) := by decide +kernel
theorem d_Sh_deed_119 : decode b_Sh_deed 119 = .ok (.iadd, 1) := by decide +kernel
theorem d_Sh_deed_120 : decode b_Sh_deed 120 = .ok (.istore 4, 2) := by decide +kernel
theorem d_Sh_deed_122 : decode b_Sh_deed 122 = .ok (.iload 5, 2) := by decide +kernel
theorem d_Sh_deed_124 : decode b_Sh_deed 124 = .ok (.iconst 1, 1) := by decide +kernel
theorem d_Sh_deed_125 : decode b_Sh_deed 125 = .ok (.aload_n 0, 1) := by decide +kernel
theorem d_Sh_deed_126 : decode b_Sh_deed 126 = .ok (.iload 6, 2) := by decide +kernel
theorem d_Sh_deed_128 : decode b_Sh_deed 128 = .ok (.invokevirtual 111, 3) := by decide +kernel
theorem d_Sh_deed_131 : decode b_Sh_deed 131 = .ok (.iconst 2, 1) := by decide +kernel
theorem d_Sh_deed_132 : decode b_Sh_deed 132 = .ok (.ishr, 1) := by decide +kernel
theorem d_Sh_deed_133 : decode b_Sh_deed 133 = .ok (.ishl, 1) := by decide +kernel
theorem d_Sh_deed_134 : decode b_Sh_deed 134 = .ok (.ior, 1) := by decide +kernel
theorem d_Sh_deed_135 : decode b_Sh_deed 135 = .ok (.istore 5, 2) := by decide +kernel
theorem d_Sh_deed_137 : decode b_Sh_deed 137 = .ok (.aload_n 0, 1) := by decide +kernel
theorem d_Sh_deed_138 : decode b_Sh_deed 138 = .ok (.iload 6, 2) := by decide +kernel
theorem d_Sh_deed_140 : decode b_Sh_deed 140 = .ok (.invokevirtual 102, 3) := by decide +kernel
theorem d_Sh_deed_143 : decode b_Sh_deed 143 = .ok (.istore 6, 2) := by decide +kernel
theorem d_Sh_deed_145 : decode b_Sh_deed 145 = .ok (.iinc 7 1, 3) := by decide +kernel
theorem d_Sh_deed_148 : decode b_Sh_deed 148 = .ok (.goto (-108), 3) := by decide +kernel
theorem d_Sh_deed_151 : decode b_Sh_deed 151 = .ok (.iload_n 3, 1) := by decide +kernel
theorem d_Sh_deed_152 : decode b_Sh_deed 152 = .ok (.iconst 1, 1) := by decide +kernel
theorem d_Sh_deed_153 : decode b_Sh_deed 153 = .ok (.if_icmp .ne 22, 3) := by decide +kernel
theorem d_Sh_deed_156 : decode b_Sh_deed 156 = .ok (.iload 4, 2) := by decide +kernel
theorem d_Sh_deed_158 : decode b_Sh_deed 158 = .ok (.iconst 1, 1) := by decide +kernel
theorem d_Sh_deed_159 : decode b_Sh_deed 159 = .ok (.if_icmp .ne 16, 3) := by decide +kernel
theorem d_Sh_deed_162 : decode b_Sh_deed 162 = .ok (.iload 5, 2) := by decide +kernel
theorem d_Sh_deed_164 : decode b_Sh_deed 164 = .ok (.invokestatic 117, 3) := by decide +kernel
theorem d_Sh_deed_167 : decode b_Sh_deed 167 = .ok (.iload_n 2, 1) := by decide +kernel
theorem d_Sh_deed_168 : decode b_Sh_deed 168 = .ok (.if_icmp .ne 7, 3) := by decide +kernel
theorem d_Sh_deed_171 : decode b_Sh_deed 171 = .ok (.iload_n 2, 1) := by decide +kernel
theorem d_Sh_deed_172 : decode b_Sh_deed 172 = .ok (.goto 4, 3) := by decide +kernel
theorem d_Sh_deed_175 : decode b_Sh_deed 175 = .ok (.iconst 0, 1) := by decide +kernel
theorem d_Sh_deed_176 : decode b_Sh_deed 176 = .ok (.ireturn, 1) := by decide +kernel
theorem d_Sh_edgeNamed_0 : decode b_Sh_edgeNamed 0 = .ok (.iconst 0, 1) := by decide +kernel
theorem d_Sh_edgeNamed_1 : decode b_Sh_edgeNamed 1 = .ok (.istore_n 2, 1) := by decide +kernel
theorem d_Sh_edgeNamed_2 : decode b_Sh_edgeNamed 2 = .ok (.iload_n 2, 1) := by decide +kernel
theorem d_Sh_edgeNamed_3 : decode b_Sh_edgeNamed 3 = .ok (.aload_n 0, 1) := by decide +kernel
theorem d_Sh_edgeNamed_4 : decode b_Sh_edgeNamed 4 = .ok (.getfield 48, 3) := by decide +kernel
theorem d_Sh_edgeNamed_7 : decode b_Sh_edgeNamed 7 = .ok (.if_icmp .ge 21, 3) := by decide +kernel
theorem d_Sh_edgeNamed_10 : decode b_Sh_edgeNamed 10 = .ok (.aload_n 0, 1) := by decide +kernel
theorem d_Sh_edgeNamed_11 : decode b_Sh_edgeNamed 11 = .ok (.getfield 15, 3) := by decide +kernel
theorem d_Sh_edgeNamed_14 : decode b_Sh_edgeNamed 14 = .ok (.iload_n 2, 1) := by decide +kernel
theorem d_Sh_edgeNamed_15 : decode b_Sh_edgeNamed 15 = .ok (.iaload, 1) := by decide +kernel
theorem d_Sh_edgeNamed_16 : decode b_Sh_edgeNamed 16 = .ok (.iload_n 1, 1) := by decide +kernel
theorem d_Sh_edgeNamed_17 : decode b_Sh_edgeNamed 17 = .ok (.if_icmp .ne 5, 3) := by decide +kernel
theorem d_Sh_edgeNamed_20 : decode b_Sh_edgeNamed 20 = .ok (.iload_n 2, 1) := by decide +kernel
theorem d_Sh_edgeNamed_21 : decode b_Sh_edgeNamed 21 = .ok (.ireturn, 1) := by decide +kernel
theorem d_Sh_edgeNamed_22 : decode b_Sh_edgeNamed 22 = .ok (.iinc 2 1, 3) := by decide +kernel
theorem d_Sh_edgeNamed_25 : decode b_Sh_edgeNamed 25 = .ok (.goto (-23), 3) := by decide +kernel
theorem d_Sh_edgeNamed_28 : decode b_Sh_edgeNamed 28 = .ok (.iconst (-1), 1) := by decide +kernel
theorem d_Sh_edgeNamed_29 : decode b_Sh_edgeNamed 29 = .ok (.ireturn, 1) := by decide +kernel
theorem d_Sh_edgesHaveDirections_0 : decode b_Sh_edgesHaveDirections 0 = .ok (.iconst 0, 1) := by decide +kernel
theorem d_Sh_edgesHaveDirections_1 : decode b_Sh_edgesHaveDirections 1 = .ok (.istore_n 2, 1) := by decide +kernel
theorem d_Sh_edgesHaveDirections_2 : decode b_Sh_edgesHaveDirections 2 = .ok (.iload_n 2, 1) := by decide +kernel
theorem d_Sh_edgesHaveDirections_3 : decode b_Sh_edgesHaveDirections 3 = .ok (.iconst 2, 1) := by decide +kernel
theorem d_Sh_edgesHaveDirections_4 : decode b_Sh_edgesHaveDirections 4 = .ok (.aload_n 1, 1) := by decide +kernel
theorem d_Sh_edgesHaveDirections_5 : decode b_Sh_edgesHaveDirections 5 = .ok (.getfield 67, 3) := by decide +kernel
theorem d_Sh_edgesHaveDirections_8 : decode b_Sh_edgesHaveDirections 8 = .ok (.imul, 1) := by decide +kernel
theorem d_Sh_edgesHaveDirections_9 : decode b_Sh_edgesHaveDirections 9 = .ok (.if_icmp .ge 122, 3) := by decide +kernel
theorem d_Sh_edgesHaveDirections_12 : decode b_Sh_edgesHaveDirections 12 = .ok (.aload_n 0, 1) := by decide +kernel
theorem d_Sh_edgesHaveDirections_13 : decode b_Sh_edgesHaveDirections 13 = .ok (.iconst 2, 1) := by decide +kernel
theorem d_Sh_edgesHaveDirections_14 : decode b_Sh_edgesHaveDirections 14 = .ok (.iload_n 2, 1) := by decide +kernel
theorem d_Sh_edgesHaveDirections_15 : decode b_Sh_edgesHaveDirections 15 = .ok (.imul, 1) := by decide +kernel
theorem d_Sh_edgesHaveDirections_16 : decode b_Sh_edgesHaveDirections 16 = .ok (.invokevirtual 83, 3) := by decide +kernel
theorem d_Sh_edgesHaveDirections_19 : decode b_Sh_edgesHaveDirections 19 = .ok (.istore_n 3, 1) := by decide +kernel
theorem d_Sh_edgesHaveDirections_20 : decode b_Sh_edgesHaveDirections 20 = .ok (.aload_n 0, 1) := by decide +kernel
theorem d_Sh_edgesHaveDirections_21 : decode b_Sh_edgesHaveDirections 21 = .ok (.iconst 2, 1) := by decide +kernel
theorem d_Sh_edgesHaveDirections_22 : decode b_Sh_edgesHaveDirections 22 = .ok (.iload_n 2, 1) := by decide +kernel
theorem d_Sh_edgesHaveDirections_23 : decode b_Sh_edgesHaveDirections 23 = .ok (.imul, 1) := by decide +kernel
theorem d_Sh_edgesHaveDirections_24 : decode b_Sh_edgesHaveDirections 24 = .ok (.iconst 1, 1) := by decide +kernel
theorem d_Sh_edgesHaveDirections_25 : decode b_Sh_edgesHaveDirections 25 = .ok (.iadd, 1) := by decide +kernel
theorem d_Sh_edgesHaveDirections_26 : decode b_Sh_edgesHaveDirections 26 = .ok (.invokevirtual 83, 3) := by decide +kernel
theorem d_Sh_edgesHaveDirections_29 : decode b_Sh_edgesHaveDirections 29 = .ok (.istore 4, 2) := by decide +kernel
theorem d_Sh_edgesHaveDirections_31 : decode b_Sh_edgesHaveDirections 31 = .ok (.aload_n 0, 1) := by decide +kernel
theorem d_Sh_edgesHaveDirections_32 : decode b_Sh_edgesHaveDirections 32 = .ok (.getfield 15, 3) := by decide +kernel
theorem d_Sh_edgesHaveDirections_35 : decode b_Sh_edgesHaveDirections 35 = .ok (.iload_n 2, 1) := by decide +kernel
theorem d_Sh_edgesHaveDirections_36 : decode b_Sh_edgesHaveDirections 36 = .ok (.aload_n 0, 1) := by decide +kernel
theorem d_Sh_edgesHaveDirections_37 : decode b_Sh_edgesHaveDirections 37 = .ok (.iconst 2, 1) := by decide +kernel
theorem d_Sh_edgesHaveDirections_38 : decode b_Sh_edgesHaveDirections 38 = .ok (.iload_n 2, 1) := by decide +kernel
theorem d_Sh_edgesHaveDirections_39 : decode b_Sh_edgesHaveDirections 39 = .ok (.imul, 1) := by decide +kernel
theorem d_Sh_edgesHaveDirections_40 : decode b_Sh_edgesHaveDirections 40 = .ok (.invokevirtual 75, 3) := by decide +kernel
theorem d_Sh_edgesHaveDirections_43 : decode b_Sh_edgesHaveDirections 43 = .ok (.iastore, 1) := by decide +kernel
theorem d_Sh_edgesHaveDirections_44 : decode b_Sh_edgesHaveDirections 44 = .ok (.aload_n 1, 1) := by decide +kernel
theorem d_Sh_edgesHaveDirections_45 : decode b_Sh_edgesHaveDirections 45 = .ok (.iload_n 3, 1) := by decide +kernel
theorem d_Sh_edgesHaveDirections_46 : decode b_Sh_edgesHaveDirections 46 = .ok (.invokevirtual 86, 3) := by decide +kernel
theorem d_Sh_edgesHaveDirections_49 : decode b_Sh_edgesHaveDirections 49 = .ok (.aload_n 1, 1) := by decide +kernel
theorem d_Sh_edgesHaveDirections_50 : decode b_Sh_edgesHaveDirections 50 = .ok (.iload 4, 2) := by decide +kernel
theorem d_Sh_edgesHaveDirections_52 : decode b_Sh_edgesHaveDirections 52 = .ok (.invokevirtual 86, 3) := by decide +kernel
theorem d_Sh_edgesHaveDirections_55 : decode b_Sh_edgesHaveDirections 55 = .ok (.if_icmp .ne 15, 3) := by decide +kernel
theorem d_Sh_edgesHaveDirections_58 : decode b_Sh_edgesHaveDirections 58 = .ok (.aload_n 0, 1) := by decide +kernel
theorem d_Sh_edgesHaveDirections_59 : decode b_Sh_edgesHaveDirections 59 = .ok (.iconst 2, 1) := by decide +kernel
theorem d_Sh_edgesHaveDirections_60 : decode b_Sh_edgesHaveDirections 60 = .ok (.aload_n 0, 1) := by decide +kernel
theorem d_Sh_edgesHaveDirections_61 : decode b_Sh_edgesHaveDirections 61 = .ok (.getfield 15, 3) := by decide +kernel
theorem d_Sh_edgesHaveDirections_64 : decode b_Sh_edgesHaveDirections 64 = .ok (.iload_n 2, 1) := by decide +kernel
theorem d_Sh_edgesHaveDirections_65 : decode b_Sh_edgesHaveDirections 65 = .ok (.iaload, 1) := by decide +kernel
theorem d_Sh_edgesHaveDirections_66 : decode b_Sh_edgesHaveDirections 66 = .ok (.invokevirtual 79, 3) := by decide +kernel
theorem d_Sh_edgesHaveDirections_69 : decode b_Sh_edgesHaveDirections 69 = .ok (.ireturn, 1) := by decide +kernel
theorem d_Sh_edgesHaveDirections_70 : decode b_Sh_edgesHaveDirections 70 = .ok (.aload_n 0, 1) := by decide +kernel
theorem d_Sh_edgesHaveDirections_71 : decode b_Sh_edgesHaveDirections 71 = .ok (.getfield 18, 3) := by decide +kernel
theorem d_Sh_edgesHaveDirections_74 : decode b_Sh_edgesHaveDirections 74 = .ok (.iload_n 2, 1) := by decide +kernel
theorem d_Sh_edgesHaveDirections_75 : decode b_Sh_edgesHaveDirections 75 = .ok (.aload_n 1, 1) := by decide +kernel
theorem d_Sh_edgesHaveDirections_76 : decode b_Sh_edgesHaveDirections 76 = .ok (.iload_n 3, 1) := by decide +kernel
theorem d_Sh_edgesHaveDirections_77 : decode b_Sh_edgesHaveDirections 77 = .ok (.invokevirtual 86, 3) := by decide +kernel
theorem d_Sh_edgesHaveDirections_80 : decode b_Sh_edgesHaveDirections 80 = .ok (.ifCond .eq 7, 3) := by decide +kernel
