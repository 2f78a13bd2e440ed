theorem d_Br_setWord_11 : decode b_Br_setWord 11 = .ok (.isub, 1) := by decide +kernel
theorem d_Br_setWord_12 : decode b_Br_setWord 12 = .ok (.istore_n 3, 1) := by decide +kernel
theorem d_Br_setWord_13 : decode b_Br_setWord 13 = .ok (.iload_n 2, 1) := by decide +kernel
theorem d_Br_setWord_14 : decode b_Br_setWord 14 = .ok (.iconst 1, 1) := by decide +kernel
theorem d_Br_setWord_15 : decode b_Br_setWord 15 = .ok (.if_icmp .lt 15, 3) := by decide +kernel
theorem d_Br_setWord_30 : decode b_Br_setWord 30 = .ok (.iconst 0, 1) := by decide +kernel
theorem d_Br_setWord_31 : decode b_Br_setWord 31 = .ok (.ireturn, 1) := by decide +kernel
theorem d_Br_setWord_18 : decode b_Br_setWord 18 = .ok (.iload_n 2, 1) := by decide +kernel
theorem d_Br_setWord_19 : decode b_Br_setWord 19 = .ok (.bipush 8, 2) := by decide +kernel
theorem d_Br_setWord_21 : decode b_Br_setWord 21 = .ok (.if_icmp .gt 9, 3) := by decide +kernel
theorem d_Br_setWord_24 : decode b_Br_setWord 24 = .ok (.iload_n 3, 1) := by decide +kernel
theorem d_Br_setWord_25 : decode b_Br_setWord 25 = .ok (.bipush 20, 2) := by decide +kernel
theorem d_Br_setWord_27 : decode b_Br_setWord 27 = .ok (.if_icmp .le 5, 3) := by decide +kernel
theorem d_Br_setWord_32 : decode b_Br_setWord 32 = .ok (.iconst 0, 1) := by decide +kernel
theorem d_Br_setWord_33 : decode b_Br_setWord 33 = .ok (.istore 4, 2) := by decide +kernel
theorem d_Di_addCrossing_100 : decode b_Di_addCrossing 100 = .ok (.iastore, 1) := by decide +kernel
theorem d_Di_addCrossing_101 : decode b_Di_addCrossing 101 = .ok (.aload_n 0, 1) := by decide +kernel
theorem d_Di_addCrossing_102 : decode b_Di_addCrossing 102 = .ok (.getfield 15, 3) := by decide +kernel
theorem d_Di_addCrossing_105 : decode b_Di_addCrossing 105 = .ok (.aload_n 0, 1) := by decide +kernel
theorem d_Di_addCrossing_106 : decode b_Di_addCrossing 106 = .ok (.iload 7, 2) := by decide +kernel
theorem d_Di_addCrossing_108 : decode b_Di_addCrossing 108 = .ok (.invokevirtual 81, 3) := by decide +kernel
theorem d_Di_addCrossing_111 : decode b_Di_addCrossing 111 = .ok (.iload_n 2, 1) := by decide +kernel
theorem d_Di_addCrossing_112 : decode b_Di_addCrossing 112 = .ok (.ifCond .eq 8, 3) := by decide +kernel
theorem d_Di_addCrossing_120 : decode b_Di_addCrossing 120 = .ok (.iload 6, 2) := by decide +kernel
theorem d_Di_addCrossing_122 : decode b_Di_addCrossing 122 = .ok (.iastore, 1) := by decide +kernel
theorem d_Di_addCrossing_123 : decode b_Di_addCrossing 123 = .ok (.return_, 1) := by decide +kernel
theorem d_Di_addCrossing_115 : decode b_Di_addCrossing 115 = .ok (.iload 4, 2) := by decide +kernel
theorem d_Di_addCrossing_117 : decode b_Di_addCrossing 117 = .ok (.goto 5, 3) := by decide +kernel
theorem d_Di_addCrossing_79 : decode b_Di_addCrossing 79 = .ok (.iastore, 1) := by decide +kernel
theorem d_Di_addCrossing_80 : decode b_Di_addCrossing 80 = .ok (.aload_n 0, 1) := by decide +kernel
theorem d_Di_addCrossing_81 : decode b_Di_addCrossing 81 = .ok (.getfield 15, 3) := by decide +kernel
theorem d_Di_addCrossing_84 : decode b_Di_addCrossing 84 = .ok (.aload_n 0, 1) := by decide +kernel
theorem d_Di_addCrossing_85 : decode b_Di_addCrossing 85 = .ok (.iload 7, 2) := by decide +kernel
theorem d_Di_addCrossing_87 : decode b_Di_addCrossing 87 = .ok (.invokevirtual 84, 3) := by decide +kernel
theorem d_Di_addCrossing_90 : decode b_Di_addCrossing 90 = .ok (.iload_n 2, 1) := by decide +kernel
theorem d_Di_addCrossing_91 : decode b_Di_addCrossing 91 = .ok (.ifCond .eq 7, 3) := by decide +kernel
theorem d_Di_addCrossing_98 : decode b_Di_addCrossing 98 = .ok (.iload 5, 2) := by decide +kernel
theorem d_Di_addCrossing_94 : decode b_Di_addCrossing 94 = .ok (.iload_n 3, 1) := by decide +kernel
theorem d_Di_addCrossing_95 : decode b_Di_addCrossing 95 = .ok (.goto 5, 3) := by decide +kernel
theorem d_Di_addCrossing_57 : decode b_Di_addCrossing 57 = .ok (.iastore, 1) := by decide +kernel
theorem d_Di_addCrossing_58 : decode b_Di_addCrossing 58 = .ok (.aload_n 0, 1) := by decide +kernel
theorem d_Di_addCrossing_59 : decode b_Di_addCrossing 59 = .ok (.getfield 15, 3) := by decide +kernel
theorem d_Di_addCrossing_62 : decode b_Di_addCrossing 62 = .ok (.iconst 4, 1) := by decide +kernel
theorem d_Di_addCrossing_63 : decode b_Di_addCrossing 63 = .ok (.iload 7, 2) := by decide +kernel
theorem d_Di_addCrossing_65 : decode b_Di_addCrossing 65 = .ok (.imul, 1) := by decide +kernel
theorem d_Di_addCrossing_66 : decode b_Di_addCrossing 66 = .ok (.iconst 2, 1) := by decide +kernel
theorem d_Di_addCrossing_67 : decode b_Di_addCrossing 67 = .ok (.iadd, 1) := by decide +kernel
theorem d_Di_addCrossing_68 : decode b_Di_addCrossing 68 = .ok (.iload_n 2, 1) := by decide +kernel
theorem d_Di_addCrossing_69 : decode b_Di_addCrossing 69 = .ok (.ifCond .eq 8, 3) := by decide +kernel
theorem d_Di_addCrossing_77 : decode b_Di_addCrossing 77 = .ok (.iload 4, 2) := by decide +kernel
theorem d_Di_addCrossing_72 : decode b_Di_addCrossing 72 = .ok (.iload 6, 2) := by decide +kernel
theorem d_Di_addCrossing_74 : decode b_Di_addCrossing 74 = .ok (.goto 5, 3) := by decide +kernel
theorem d_Di_addCrossing_0 : decode b_Di_addCrossing 0 = .ok (.aload_n 0, 1) := by decide +kernel
theorem d_Di_addCrossing_1 : decode b_Di_addCrossing 1 = .ok (.getfield 36, 3) := by decide +kernel
theorem d_Di_addCrossing_4 : decode b_Di_addCrossing 4 = .ok (.bipush 20, 2) := by decide +kernel
theorem d_Di_addCrossing_6 : decode b_Di_addCrossing 6 = .ok (.if_icmp .lt 4, 3) := by decide +kernel
theorem d_Di_addCrossing_10 : decode b_Di_addCrossing 10 = .ok (.aload_n 0, 1) := by decide +kernel
theorem d_Di_addCrossing_11 : decode b_Di_addCrossing 11 = .ok (.getfield 36, 3) := by decide +kernel
theorem d_Di_addCrossing_14 : decode b_Di_addCrossing 14 = .ok (.istore 7, 2) := by decide +kernel
theorem d_Di_addCrossing_16 : decode b_Di_addCrossing 16 = .ok (.aload_n 0, 1) := by decide +kernel
theorem d_Di_addCrossing_17 : decode b_Di_addCrossing 17 = .ok (.dup, 1) := by decide +kernel
theorem d_Di_addCrossing_18 : decode b_Di_addCrossing 18 = .ok (.getfield 36, 3) := by decide +kernel
theorem d_Di_addCrossing_21 : decode b_Di_addCrossing 21 = .ok (.iconst 1, 1) := by decide +kernel
theorem d_Di_addCrossing_22 : decode b_Di_addCrossing 22 = .ok (.iadd, 1) := by decide +kernel
theorem d_Di_addCrossing_23 : decode b_Di_addCrossing 23 = .ok (.putfield 36, 3) := by decide +kernel
theorem d_Di_addCrossing_26 : decode b_Di_addCrossing 26 = .ok (.aload_n 0, 1) := by decide +kernel
theorem d_Di_addCrossing_27 : decode b_Di_addCrossing 27 = .ok (.iconst 0, 1) := by decide +kernel
theorem d_Di_addCrossing_28 : decode b_Di_addCrossing 28 = .ok (.putfield 25, 3) := by decide +kernel
theorem d_Di_addCrossing_31 : decode b_Di_addCrossing 31 = .ok (.aload_n 0, 1) := by decide +kernel
theorem d_Di_addCrossing_32 : decode b_Di_addCrossing 32 = .ok (.getfield 9, 3) := by decide +kernel
theorem d_Di_addCrossing_35 : decode b_Di_addCrossing 35 = .ok (.iload 7, 2) := by decide +kernel
theorem d_Di_addCrossing_37 : decode b_Di_addCrossing 37 = .ok (.iload_n 1, 1) := by decide +kernel
theorem d_Di_addCrossing_38 : decode b_Di_addCrossing 38 = .ok (.iastore, 1) := by decide +kernel
theorem d_Di_addCrossing_39 : decode b_Di_addCrossing 39 = .ok (.aload_n 0, 1) := by decide +kernel
theorem d_Di_addCrossing_40 : decode b_Di_addCrossing 40 = .ok (.getfield 15, 3) := by decide +kernel
theorem d_Di_addCrossing_43 : decode b_Di_addCrossing 43 = .ok (.iconst 4, 1) := by decide +kernel
theorem d_Di_addCrossing_44 : decode b_Di_addCrossing 44 = .ok (.iload 7, 2) := by decide +kernel
theorem d_Di_addCrossing_46 : decode b_Di_addCrossing 46 = .ok (.imul, 1) := by decide +kernel
theorem d_Di_addCrossing_47 : decode b_Di_addCrossing 47 = .ok (.iload_n 2, 1) := by decide +kernel
theorem d_Di_addCrossing_48 : decode b_Di_addCrossing 48 = .ok (.ifCond .eq 8, 3) := by decide +kernel
theorem d_Di_addCrossing_56 : decode b_Di_addCrossing 56 = .ok (.iload_n 3, 1) := by decide +kernel
theorem d_Di_addCrossing_51 : decode b_Di_addCrossing 51 = .ok (.iload 5, 2) := by decide +kernel
theorem d_Di_addCrossing_53 : decode b_Di_addCrossing 53 = .ok (.goto 4, 3) := by decide +kernel
theorem d_Di_addCrossing_9 : decode b_Di_addCrossing 9 = .ok (.return_, 1) := by decide +kernel
theorem d_Sh_deed_119 : decode b_Sh_deed 119 = .ok (.iadd, 1) := by decide +kernel
theorem d_Sh_deed_120 : decode b_Sh_deed 120 = .ok (.istore 4, 2) := by decide +kernel
theorem d_Sh_deed_122 : decode b_Sh_deed 122 = .ok (.iload 5, 2) := by decide +kernel
theorem d_Sh_deed_124 : decode b_Sh_deed 124 = .ok (.iconst 1, 1) := by decide +kernel
theorem d_Sh_deed_125 : decode b_Sh_deed 125 = .ok (.aload_n 0, 1) := by decide +kernel
theorem d_Sh_deed_126 : decode b_Sh_deed 126 = .ok (.iload 6, 2) := by decide +kernel
theorem d_Sh_deed_128 : decode b_Sh_deed 128 = .ok (.invokevirtual 111, 3) := by decide +kernel
theorem d_Sh_deed_131 : decode b_Sh_deed 131 = .ok (.iconst 2, 1) := by decide +kernel
theorem d_Sh_deed_132 : decode b_Sh_deed 132 = .ok (.ishr, 1) := by decide +kernel
theorem d_Sh_deed_133 : decode b_Sh_deed 133 = .ok (.ishl, 1) := by decide +kernel
theorem d_Sh_deed_134 : decode b_Sh_deed 134 = .ok (.ior, 1) := by decide +kernel
theorem d_Sh_deed_135 : decode b_Sh_deed 135 = .ok (.istore 5, 2) := by decide +kernel
theorem d_Sh_deed_137 : decode b_Sh_deed 137 = .ok (.aload_n 0, 1) := by decide +kernel
theorem d_Sh_deed_138 : decode b_Sh_deed 138 = .ok (.iload 6, 2) := by decide +kernel
theorem d_Sh_deed_140 : decode b_Sh_deed 140 = .ok (.invokevirtual 102, 3) := by decide +kernel
theorem d_Sh_deed_143 : decode b_Sh_deed 143 = .ok (.istore 6, 2) := by decide +kernel
theorem d_Sh_deed_145 : decode b_Sh_deed 145 = .ok (.iinc 7 1, 3) := by decide +kernel
theorem d_Sh_deed_148 : decode b_Sh_deed 148 = .ok (.goto (-108), 3) := by decide +kernel
theorem d_Sh_deed_114 : decode b_Sh_deed 114 = .ok (.iconst 0, 1) := by decide +kernel
theorem d_Sh_deed_115 : decode b_Sh_deed 115 = .ok (.goto 4, 3) := by decide +kernel
theorem d_Sh_deed_84 : decode b_Sh_deed 84 = .ok (.iadd, 1) := by decide +kernel
theorem d_Sh_deed_85 : decode b_Sh_deed 85 = .ok (.istore_n 3, 1) := by decide +kernel
theorem d_Sh_deed_86 : decode b_Sh_deed 86 = .ok (.iload 4, 2) := by decide +kernel
theorem d_Sh_deed_88 : decode b_Sh_deed 88 = .ok (.aload_n 0, 1) := by decide +kernel
theorem d_Sh_deed_89 : decode b_Sh_deed 89 = .ok (.getfield 18, 3) := by decide +kernel
theorem d_Sh_deed_92 : decode b_Sh_deed 92 = .ok (.iload 8, 2) := by decide +kernel
theorem d_Sh_deed_94 : decode b_Sh_deed 94 = .ok (.iaload, 1) := by decide +kernel
theorem d_Sh_deed_95 : decode b_Sh_deed 95 = .ok (.invokestatic 114, 3) := by decide +kernel
theorem d_Sh_deed_98 : decode b_Sh_deed 98 = .ok (.ifCond .ne 16, 3) := by decide +kernel
theorem d_Sh_deed_101 : decode b_Sh_deed 101 = .ok (.aload_n 0, 1) := by decide +kernel
theorem d_Sh_deed_102 : decode b_Sh_deed 102 = .ok (.getfield 21, 3) := by decide +kernel
theorem d_Sh_deed_105 : decode b_Sh_deed 105 = .ok (.iload 8, 2) := by decide +kernel
theorem d_Sh_deed_107 : decode b_Sh_deed 107 = .ok (.iaload, 1) := by decide +kernel
theorem d_Sh_deed_108 : decode b_Sh_deed 108 = .ok (.invokestatic 114, 3) := by decide +kernel
theorem d_Sh_deed_111 : decode b_Sh_deed 111 = .ok (.ifCond .eq 7, 3) := by decide +kernel
theorem d_Sh_deed_118 : decode b_Sh_deed 118 = .ok (.iconst 1, 1) := by decide +kernel
theorem d_Sh_deed_83 : decode b_Sh_deed 83 = .ok (.iconst 0, 1) := by decide +kernel
theorem d_Sh_deed_40 : decode b_Sh_deed 40 = .ok (.iload 7, 2) := by decide +kernel
theorem d_Sh_deed_42 : decode b_Sh_deed 42 = .ok (.iload_n 2, 1) := by decide +kernel
theorem d_Sh_deed_43 : decode b_Sh_deed 43 = .ok (.if_icmp .ge 108, 3) := by decide +kernel
theorem d_Sh_deed_151 : decode b_Sh_deed 151 = .ok (.iload_n 3, 1) := by decide +kernel
theorem d_Sh_deed_152 : decode b_Sh_deed 152 = .ok (.iconst 1, 1) := by decide +kernel
theorem d_Sh_deed_153 : decode b_Sh_deed 153 = .ok (.if_icmp .ne 22, 3) := by decide +kernel
theorem d_Sh_deed_175 : decode b_Sh_deed 175 = .ok (.iconst 0, 1) := by decide +kernel
theorem d_Sh_deed_176 : decode b_Sh_deed 176 = .ok (.ireturn, 1) := by decide +kernel
theorem d_Sh_deed_156 : decode b_Sh_deed 156 = .ok (.iload 4, 2) := by decide +kernel
theorem d_Sh_deed_158 : decode b_Sh_deed 158 = .ok (.iconst 1, 1) := by decide +kernel
theorem d_Sh_deed_159 : decode b_Sh_deed 159 = .ok (.if_icmp .ne 16, 3) := by decide +kernel
theorem d_Sh_deed_162 : decode b_Sh_deed 162 = .ok (.iload 5, 2) := by decide +kernel
theorem d_Sh_deed_164 : decode b_Sh_deed 164 = .ok (.invokestatic 117, 3) := by decide +kernel
theorem d_Sh_deed_167 : decode b_Sh_deed 167 = .ok (.iload_n 2, 1) := by decide +kernel
theorem d_Sh_deed_168 : decode b_Sh_deed 168 = .ok (.if_icmp .ne 7, 3) := by decide +kernel
theorem d_Sh_deed_171 : decode b_Sh_deed 171 = .ok (.iload_n 2, 1) := by decide +kernel
theorem d_Sh_deed_172 : decode b_Sh_deed 172 = .ok (.goto 4, 3) := by decide +kernel
theorem d_Sh_deed_46 : decode b_Sh_deed 46 = .ok (.iload 6, 2) := by decide +kernel
theorem d_Sh_deed_48 : decode b_Sh_deed 48 = .ok (.iconst 1, 1) := by decide +kernel
theorem d_Sh_deed_49 : decode b_Sh_deed 49 = .ok (.ishr, 1) := by decide +kernel
theorem d_Sh_deed_50 : decode b_Sh_deed 50 = .ok (.istore 8, 2) := by decide +kernel
theorem d_Sh_deed_52 : decode b_Sh_deed 52 = .ok (.iload_n 3, 1) := by decide +kernel
theorem d_Sh_deed_53 : decode b_Sh_deed 53 = .ok (.aload_n 0, 1) := by decide +kernel
theorem d_Sh_deed_54 : decode b_Sh_deed 54 = .ok (.getfield 18, 3) := by decide +kernel
theorem d_Sh_deed_57 : decode b_Sh_deed 57 = .ok (.iload 8, 2) := by decide +kernel
theorem d_Sh_deed_59 : decode b_Sh_deed 59 = .ok (.iaload, 1) := by decide +kernel
theorem d_Sh_deed_60 : decode b_Sh_deed 60 = .ok (.invokestatic 114, 3) := by decide +kernel
theorem d_Sh_deed_63 : decode b_Sh_deed 63 = .ok (.ifCond .eq 20, 3) := by decide +kernel
theorem d_Sh_deed_66 : decode b_Sh_deed 66 = .ok (.aload_n 0, 1) := by decide +kernel
theorem d_Sh_deed_67 : decode b_Sh_deed 67 = .ok (.getfield 21, 3) := by decide +kernel
theorem d_Sh_deed_70 : decode b_Sh_deed 70 = .ok (.iload 8, 2) := by decide +kernel
theorem d_Sh_deed_72 : decode b_Sh_deed 72 = .ok (.iaload, 1) := by decide +kernel
theorem d_Sh_deed_73 : decode b_Sh_deed 73 = .ok (.invokestatic 114, 3) := by decide +kernel
theorem d_Sh_deed_76 : decode b_Sh_deed 76 = .ok (.ifCond .eq 7, 3) := by decide +kernel
theorem d_Sh_deed_79 : decode b_Sh_deed 79 = .ok (.iconst 1, 1) := by decide +kernel
theorem d_Sh_deed_80 : decode b_Sh_deed 80 = .ok (.goto 4, 3) := by decide +kernel
theorem d_Sh_deed_0 : decode b_Sh_deed 0 = .ok (.aload_n 0, 1) := by decide +kernel
theorem d_Sh_deed_1 : decode b_Sh_deed 1 = .ok (.getfield 42, 3) := by decide +kernel
theorem d_Sh_deed_4 : decode b_Sh_deed 4 = .ok (.iload_n 1, 1) := by decide +kernel
theorem d_Sh_deed_5 : decode b_Sh_deed 5 = .ok (.iaload, 1) := by decide +kernel
theorem d_Sh_deed_6 : decode b_Sh_deed 6 = .ok (.istore_n 2, 1) := by decide +kernel
theorem d_Sh_deed_7 : decode b_Sh_deed 7 = .ok (.iload_n 2, 1) := by decide +kernel
theorem d_Sh_deed_8 : decode b_Sh_deed 8 = .ok (.iconst 1, 1) := by decide +kernel
theorem d_Sh_deed_9 : decode b_Sh_deed 9 = .ok (.if_icmp .ne 5, 3) := by decide +kernel
theorem d_Sh_deed_14 : decode b_Sh_deed 14 = .ok (.iload_n 2, 1) := by decide +kernel
theorem d_Sh_deed_15 : decode b_Sh_deed 15 = .ok (.iconst 3, 1) := by decide +kernel
theorem d_Sh_deed_16 : decode b_Sh_deed 16 = .ok (.if_icmp .le 5, 3) := by decide +kernel
theorem d_Sh_deed_21 : decode b_Sh_deed 21 = .ok (.iconst 0, 1) := by decide +kernel
theorem d_Sh_deed_22 : decode b_Sh_deed 22 = .ok (.istore_n 3, 1) := by decide +kernel
theorem d_Sh_deed_23 : decode b_Sh_deed 23 = .ok (.iconst 0, 1) := by decide +kernel
theorem d_Sh_deed_24 : decode b_Sh_deed 24 = .ok (.istore 4, 2) := by decide +kernel
theorem d_Sh_deed_26 : decode b_Sh_deed 26 = .ok (.iconst 0, 1) := by decide +kernel
theorem d_Sh_deed_27 : decode b_Sh_deed 27 = .ok (.istore 5, 2) := by decide +kernel
theorem d_Sh_deed_29 : decode b_Sh_deed 29 = .ok (.aload_n 0, 1) := by decide +kernel
theorem d_Sh_deed_30 : decode b_Sh_deed 30 = .ok (.getfield 39, 3) := by decide +kernel
theorem d_Sh_deed_33 : decode b_Sh_deed 33 = .ok (.iload_n 1, 1) := by decide +kernel
theorem d_Sh_deed_34 : decode b_Sh_deed 34 = .ok (.iaload, 1) := by decide +kernel
theorem d_Sh_deed_35 : decode b_Sh_deed 35 = .ok (.istore 6, 2) := by decide +kernel
theorem d_Sh_deed_37 : decode b_Sh_deed 37 = .ok (.iconst 0, 1) := by decide +kernel
theorem d_Sh_deed_38 : decode b_Sh_deed 38 = .ok (.istore 7, 2) := by decide +kernel
theorem d_Sh_deed_19 : decode b_Sh_deed 19 = .ok (.iconst 0, 1) := by decide +kernel
theorem d_Sh_deed_20 : decode b_Sh_deed 20 = .ok (.ireturn, 1) := by decide +kernel
theorem d_Sh_deed_12 : decode b_Sh_deed 12 = .ok (.iconst 1, 1) := by decide +kernel
theorem d_Sh_deed_13 : decode b_Sh_deed 13 = .ok (.ireturn, 1) := by decide +kernel
theorem d_Di_lift_0 : decode b_Di_lift 0 = .ok (.aload_n 0, 1) := by decide +kernel
theorem d_Di_lift_1 : decode b_Di_lift 1 = .ok (.iload_n 1, 1) := by decide +kernel
theorem d_Di_lift_2 : decode b_Di_lift 2 = .ok (.invokevirtual 87, 3) := by decide +kernel
theorem d_Di_lift_5 : decode b_Di_lift 5 = .ok (.istore_n 2, 1) := by decide +kernel
theorem d_Di_lift_6 : decode b_Di_lift 6 = .ok (.aload_n 0, 1) := by decide +kernel
theorem d_Di_lift_7 : decode b_Di_lift 7 = .ok (.iconst 4, 1) := by decide +kernel
theorem d_Di_lift_8 : decode b_Di_lift 8 = .ok (.iload_n 2, 1) := by decide +kernel
theorem d_Di_lift_9 : decode b_Di_lift 9 = .ok (.imul, 1) := by decide +kernel
theorem d_Di_lift_10 : decode b_Di_lift 10 = .ok (.iconst 4, 1) := by decide +kernel
theorem d_Di_lift_11 : decode b_Di_lift 11 = .ok (.iload_n 2, 1) := by decide +kernel
theorem d_Di_lift_12 : decode b_Di_lift 12 = .ok (.imul, 1) := by decide +kernel
theorem d_Di_lift_13 : decode b_Di_lift 13 = .ok (.iconst 2, 1) := by decide +kernel
theorem d_Di_lift_14 : decode b_Di_lift 14 = .ok (.iadd, 1) := by decide +kernel
theorem d_Di_lift_15 : decode b_Di_lift 15 = .ok (.invokevirtual 90, 3) := by decide +kernel
theorem d_Di_lift_18 : decode b_Di_lift 18 = .ok (.aload_n 0, 1) := by decide +kernel
