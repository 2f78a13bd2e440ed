theorem d_Md_rotate_52 : decode b_Md_rotate 52 = .ok (.iconst 3, 1) := by decide +kernel
theorem d_Md_rotate_53 : decode b_Md_rotate 53 = .ok (.iadd, 1) := by decide +kernel
theorem d_Md_rotate_54 : decode b_Md_rotate 54 = .ok (.iaload, 1) := by decide +kernel
theorem d_Md_rotate_55 : decode b_Md_rotate 55 = .ok (.istore 6, 2) := by decide +kernel
theorem d_Md_rotate_57 : decode b_Md_rotate 57 = .ok (.iconst 0, 1) := by decide +kernel
theorem d_Md_rotate_58 : decode b_Md_rotate 58 = .ok (.istore 7, 2) := by decide +kernel
theorem d_Md_rotate_60 : decode b_Md_rotate 60 = .ok (.iload 7, 2) := by decide +kernel
theorem d_Md_rotate_62 : decode b_Md_rotate 62 = .ok (.iconst 4, 1) := by decide +kernel
theorem d_Md_rotate_63 : decode b_Md_rotate 63 = .ok (.if_icmp .ge 64, 3) := by decide +kernel
theorem d_Md_rotate_66 : decode b_Md_rotate 66 = .ok (.iload 7, 2) := by decide +kernel
theorem d_Md_rotate_68 : decode b_Md_rotate 68 = .ok (.iload_n 2, 1) := by decide +kernel
theorem d_Md_rotate_69 : decode b_Md_rotate 69 = .ok (.iadd, 1) := by decide +kernel
theorem d_Md_rotate_70 : decode b_Md_rotate 70 = .ok (.iconst 3, 1) := by decide +kernel
theorem d_Md_rotate_71 : decode b_Md_rotate 71 = .ok (.iand, 1) := by decide +kernel
theorem d_Md_rotate_72 : decode b_Md_rotate 72 = .ok (.istore 8, 2) := by decide +kernel
theorem d_Md_rotate_74 : decode b_Md_rotate 74 = .ok (.aload_n 0, 1) := by decide +kernel
theorem d_Md_rotate_75 : decode b_Md_rotate 75 = .ok (.getfield 37, 3) := by decide +kernel
theorem d_Md_rotate_78 : decode b_Md_rotate 78 = .ok (.getfield 318, 3) := by decide +kernel
theorem d_Md_rotate_81 : decode b_Md_rotate 81 = .ok (.iconst 4, 1) := by decide +kernel
theorem d_Md_rotate_82 : decode b_Md_rotate 82 = .ok (.iload_n 1, 1) := by decide +kernel
theorem d_Md_rotate_83 : decode b_Md_rotate 83 = .ok (.imul, 1) := by decide +kernel
theorem d_Md_rotate_84 : decode b_Md_rotate 84 = .ok (.iload 7, 2) := by decide +kernel
theorem d_Md_rotate_86 : decode b_Md_rotate 86 = .ok (.iadd, 1) := by decide +kernel
theorem d_Md_rotate_87 : decode b_Md_rotate 87 = .ok (.iload 8, 2) := by decide +kernel
theorem d_Md_rotate_89 : decode b_Md_rotate 89 = .ok (.ifCond .ne 7, 3) := by decide +kernel
theorem d_Md_rotate_92 : decode b_Md_rotate 92 = .ok (.iload_n 3, 1) := by decide +kernel
theorem d_Md_rotate_93 : decode b_Md_rotate 93 = .ok (.goto 27, 3) := by decide +kernel
theorem d_Md_rotate_96 : decode b_Md_rotate 96 = .ok (.iload 8, 2) := by decide +kernel
theorem d_Md_rotate_98 : decode b_Md_rotate 98 = .ok (.iconst 1, 1) := by decide +kernel
theorem d_Md_rotate_99 : decode b_Md_rotate 99 = .ok (.if_icmp .ne 8, 3) := by decide +kernel
theorem d_Md_rotate_102 : decode b_Md_rotate 102 = .ok (.iload 4, 2) := by decide +kernel
theorem d_Md_rotate_104 : decode b_Md_rotate 104 = .ok (.goto 16, 3) := by decide +kernel
theorem d_Md_rotate_107 : decode b_Md_rotate 107 = .ok (.iload 8, 2) := by decide +kernel
theorem d_Md_rotate_109 : decode b_Md_rotate 109 = .ok (.iconst 2, 1) := by decide +kernel
theorem d_Md_rotate_110 : decode b_Md_rotate 110 = .ok (.if_icmp .ne 8, 3) := by decide +kernel
theorem d_Md_rotate_113 : decode b_Md_rotate 113 = .ok (.iload 5, 2) := by decide +kernel
theorem d_Md_rotate_115 : decode b_Md_rotate 115 = .ok (.goto 5, 3) := by decide +kernel
theorem d_Md_rotate_118 : decode b_Md_rotate 118 = .ok (.iload 6, 2) := by decide +kernel
theorem d_Md_rotate_120 : decode b_Md_rotate 120 = .ok (.iastore, 1) := by decide +kernel
theorem d_Md_rotate_121 : decode b_Md_rotate 121 = .ok (.iinc 7 1, 3) := by decide +kernel
theorem d_Md_rotate_124 : decode b_Md_rotate 124 = .ok (.goto (-64), 3) := by decide +kernel
theorem d_Md_rotate_127 : decode b_Md_rotate 127 = .ok (.return_, 1) := by decide +kernel
theorem d_Md_run_0 : decode b_Md_run 0 = .ok (.iload_n 1, 1) := by decide +kernel
theorem d_Md_run_1 : decode b_Md_run 1 = .ok (.ifCond .lt 9, 3) := by decide +kernel
theorem d_Md_run_4 : decode b_Md_run 4 = .ok (.iload_n 1, 1) := by decide +kernel
theorem d_Md_run_5 : decode b_Md_run 5 = .ok (.bipush 16, 2) := by decide +kernel
theorem d_Md_run_7 : decode b_Md_run 7 = .ok (.if_icmp .le 5, 3) := by decide +kernel
theorem d_Md_run_10 : decode b_Md_run 10 = .ok (.iconst (-1), 1) := by decide +kernel
theorem d_Md_run_11 : decode b_Md_run 11 = .ok (.ireturn, 1) := by decide +kernel
theorem d_Md_run_12 : decode b_Md_run 12 = .ok (.iconst 0, 1) := by decide +kernel
theorem d_Md_run_13 : decode b_Md_run 13 = .ok (.istore_n 2, 1) := by decide +kernel
theorem d_Md_run_14 : decode b_Md_run 14 = .ok (.iconst 1, 1) := by decide +kernel
theorem d_Md_run_15 : decode b_Md_run 15 = .ok (.istore_n 3, 1) := by decide +kernel
theorem d_Md_run_16 : decode b_Md_run 16 = .ok (.iload_n 3, 1) := by decide +kernel
theorem d_Md_run_17 : decode b_Md_run 17 = .ok (.ifCond .eq 67, 3) := by decide +kernel
theorem d_Md_run_20 : decode b_Md_run 20 = .ok (.iload_n 2, 1) := by decide +kernel
theorem d_Md_run_21 : decode b_Md_run 21 = .ok (.iload_n 1, 1) := by decide +kernel
theorem d_Md_run_22 : decode b_Md_run 22 = .ok (.if_icmp .ge 62, 3) := by decide +kernel
theorem d_Md_run_25 : decode b_Md_run 25 = .ok (.aload_n 0, 1) := by decide +kernel
theorem d_Md_run_26 : decode b_Md_run 26 = .ok (.getfield 290, 3) := by decide +kernel
theorem d_Md_run_29 : decode b_Md_run 29 = .ok (.aload_n 0, 1) := by decide +kernel
theorem d_Md_run_30 : decode b_Md_run 30 = .ok (.getfield 284, 3) := by decide +kernel
theorem d_Md_run_33 : decode b_Md_run 33 = .ok (.if_icmp .ge 51, 3) := by decide +kernel
theorem d_Md_run_36 : decode b_Md_run 36 = .ok (.aload_n 0, 1) := by decide +kernel
theorem d_Md_run_37 : decode b_Md_run 37 = .ok (.getfield 23, 3) := by decide +kernel
theorem d_Md_run_40 : decode b_Md_run 40 = .ok (.aload_n 0, 1) := by decide +kernel
theorem d_Md_run_41 : decode b_Md_run 41 = .ok (.getfield 290, 3) := by decide +kernel
theorem d_Md_run_44 : decode b_Md_run 44 = .ok (.iaload, 1) := by decide +kernel
theorem d_Md_run_45 : decode b_Md_run 45 = .ok (.istore 4, 2) := by decide +kernel
theorem d_Md_run_47 : decode b_Md_run 47 = .ok (.aload_n 0, 1) := by decide +kernel
theorem d_Md_run_48 : decode b_Md_run 48 = .ok (.invokevirtual 677, 3) := by decide +kernel
theorem d_Md_run_51 : decode b_Md_run 51 = .ok (.istore_n 3, 1) := by decide +kernel
theorem d_Md_run_52 : decode b_Md_run 52 = .ok (.iload_n 2, 1) := by decide +kernel
theorem d_Md_run_53 : decode b_Md_run 53 = .ok (.iload_n 3, 1) := by decide +kernel
theorem d_Md_run_54 : decode b_Md_run 54 = .ok (.ifCond .eq 7, 3) := by decide +kernel
theorem d_Md_run_57 : decode b_Md_run 57 = .ok (.iconst 1, 1) := by decide +kernel
theorem d_Md_run_58 : decode b_Md_run 58 = .ok (.goto 4, 3) := by decide +kernel
theorem d_Md_run_61 : decode b_Md_run 61 = .ok (.iconst 0, 1) := by decide +kernel
theorem d_Md_run_62 : decode b_Md_run 62 = .ok (.iadd, 1) := by decide +kernel
theorem d_Md_run_63 : decode b_Md_run 63 = .ok (.istore_n 2, 1) := by decide +kernel
theorem d_Md_run_64 : decode b_Md_run 64 = .ok (.iload_n 3, 1) := by decide +kernel
theorem d_Md_run_65 : decode b_Md_run 65 = .ok (.ifCond .eq 14, 3) := by decide +kernel
theorem d_Md_run_68 : decode b_Md_run 68 = .ok (.iload 4, 2) := by decide +kernel
theorem d_Md_run_70 : decode b_Md_run 70 = .ok (.bipush 16, 2) := by decide +kernel
theorem d_Md_run_72 : decode b_Md_run 72 = .ok (.if_icmp .ge 7, 3) := by decide +kernel
theorem d_Md_run_75 : decode b_Md_run 75 = .ok (.iconst 1, 1) := by decide +kernel
theorem d_Md_run_76 : decode b_Md_run 76 = .ok (.goto 4, 3) := by decide +kernel
theorem d_Md_run_79 : decode b_Md_run 79 = .ok (.iconst 0, 1) := by decide +kernel
theorem d_Md_run_80 : decode b_Md_run 80 = .ok (.istore_n 3, 1) := by decide +kernel
theorem d_Md_run_81 : decode b_Md_run 81 = .ok (.goto (-65), 3) := by decide +kernel
theorem d_Md_run_84 : decode b_Md_run 84 = .ok (.iload_n 2, 1) := by decide +kernel
theorem d_Md_run_85 : decode b_Md_run 85 = .ok (.ireturn, 1) := by decide +kernel
theorem d_Md_same_0 : decode b_Md_same 0 = .ok (.aload_n 0, 1) := by decide +kernel
theorem d_Md_same_1 : decode b_Md_same 1 = .ok (.getfield 50, 3) := by decide +kernel
theorem d_Md_same_4 : decode b_Md_same 4 = .ok (.invokestatic 437, 3) := by decide +kernel
theorem d_Md_same_7 : decode b_Md_same 7 = .ok (.aload_n 0, 1) := by decide +kernel
theorem d_Md_same_8 : decode b_Md_same 8 = .ok (.getfield 54, 3) := by decide +kernel
theorem d_Md_same_11 : decode b_Md_same 11 = .ok (.invokestatic 437, 3) := by decide +kernel
theorem d_Md_same_14 : decode b_Md_same 14 = .ok (.aload_n 0, 1) := by decide +kernel
theorem d_Md_same_15 : decode b_Md_same 15 = .ok (.getfield 50, 3) := by decide +kernel
theorem d_Md_same_18 : decode b_Md_same 18 = .ok (.getfield 395, 3) := by decide +kernel
theorem d_Md_same_21 : decode b_Md_same 21 = .ok (.aload_n 0, 1) := by decide +kernel
theorem d_Md_same_22 : decode b_Md_same 22 = .ok (.getfield 54, 3) := by decide +kernel
theorem d_Md_same_25 : decode b_Md_same 25 = .ok (.getfield 395, 3) := by decide +kernel
theorem d_Md_same_28 : decode b_Md_same 28 = .ok (.if_icmp .ne 41, 3) := by decide +kernel
theorem d_Md_same_31 : decode b_Md_same 31 = .ok (.aload_n 0, 1) := by decide +kernel
theorem d_Md_same_32 : decode b_Md_same 32 = .ok (.getfield 50, 3) := by decide +kernel
theorem d_Md_same_35 : decode b_Md_same 35 = .ok (.getfield 406, 3) := by decide +kernel
theorem d_Md_same_38 : decode b_Md_same 38 = .ok (.aload_n 0, 1) := by decide +kernel
theorem d_Md_same_39 : decode b_Md_same 39 = .ok (.getfield 54, 3) := by decide +kernel
theorem d_Md_same_42 : decode b_Md_same 42 = .ok (.getfield 406, 3) := by decide +kernel
theorem d_Md_same_45 : decode b_Md_same 45 = .ok (.if_icmp .ne 24, 3) := by decide +kernel
theorem d_Md_same_48 : decode b_Md_same 48 = .ok (.aload_n 0, 1) := by decide +kernel
theorem d_Md_same_49 : decode b_Md_same 49 = .ok (.getfield 50, 3) := by decide +kernel
theorem d_Md_same_52 : decode b_Md_same 52 = .ok (.getfield 409, 3) := by decide +kernel
theorem d_Md_same_55 : decode b_Md_same 55 = .ok (.aload_n 0, 1) := by decide +kernel
theorem d_Md_same_56 : decode b_Md_same 56 = .ok (.getfield 54, 3) := by decide +kernel
theorem d_Md_same_59 : decode b_Md_same 59 = .ok (.getfield 409, 3) := by decide +kernel
theorem d_Md_same_62 : decode b_Md_same 62 = .ok (.if_icmp .ne 7, 3) := by decide +kernel
theorem d_Md_same_65 : decode b_Md_same 65 = .ok (.iconst 1, 1) := by decide +kernel
theorem d_Md_same_66 : decode b_Md_same 66 = .ok (.goto 4, 3) := by decide +kernel
theorem d_Md_same_69 : decode b_Md_same 69 = .ok (.iconst 0, 1) := by decide +kernel
theorem d_Md_same_70 : decode b_Md_same 70 = .ok (.istore_n 1, 1) := by decide +kernel
theorem d_Md_same_71 : decode b_Md_same 71 = .ok (.iconst 0, 1) := by decide +kernel
theorem d_Md_same_72 : decode b_Md_same 72 = .ok (.istore_n 2, 1) := by decide +kernel
theorem d_Md_same_73 : decode b_Md_same 73 = .ok (.iload_n 2, 1) := by decide +kernel
theorem d_Md_same_74 : decode b_Md_same 74 = .ok (.aload_n 0, 1) := by decide +kernel
theorem d_Md_same_75 : decode b_Md_same 75 = .ok (.getfield 50, 3) := by decide +kernel
theorem d_Md_same_78 : decode b_Md_same 78 = .ok (.getfield 409, 3) := by decide +kernel
theorem d_Md_same_81 : decode b_Md_same 81 = .ok (.if_icmp .ge 73, 3) := by decide +kernel
theorem d_Md_same_84 : decode b_Md_same 84 = .ok (.iload_n 1, 1) := by decide +kernel
theorem d_Md_same_85 : decode b_Md_same 85 = .ok (.ifCond .eq 69, 3) := by decide +kernel
theorem d_Md_same_88 : decode b_Md_same 88 = .ok (.iconst 1, 1) := by decide +kernel
theorem d_Md_same_89 : decode b_Md_same 89 = .ok (.istore_n 3, 1) := by decide +kernel
theorem d_Md_same_90 : decode b_Md_same 90 = .ok (.iload_n 3, 1) := by decide +kernel
theorem d_Md_same_91 : decode b_Md_same 91 = .ok (.aload_n 0, 1) := by decide +kernel
theorem d_Md_same_92 : decode b_Md_same 92 = .ok (.getfield 50, 3) := by decide +kernel
theorem d_Md_same_95 : decode b_Md_same 95 = .ok (.getfield 395, 3) := by decide +kernel
theorem d_Md_same_98 : decode b_Md_same 98 = .ok (.if_icmp .gt 50, 3) := by decide +kernel
theorem d_Md_same_101 : decode b_Md_same 101 = .ok (.iload_n 1, 1) := by decide +kernel
theorem d_Md_same_102 : decode b_Md_same 102 = .ok (.ifCond .eq 38, 3) := by decide +kernel
theorem d_Md_same_105 : decode b_Md_same 105 = .ok (.aload_n 0, 1) := by decide +kernel
theorem d_Md_same_106 : decode b_Md_same 106 = .ok (.getfield 50, 3) := by decide +kernel
theorem d_Md_same_109 : decode b_Md_same 109 = .ok (.getfield 403, 3) := by decide +kernel
theorem d_Md_same_112 : decode b_Md_same 112 = .ok (.bipush 9, 2) := by decide +kernel
theorem d_Md_same_114 : decode b_Md_same 114 = .ok (.iload_n 2, 1) := by decide +kernel
theorem d_Md_same_115 : decode b_Md_same 115 = .ok (.imul, 1) := by decide +kernel
theorem d_Md_same_116 : decode b_Md_same 116 = .ok (.iload_n 3, 1) := by decide +kernel
theorem d_Md_same_117 : decode b_Md_same 117 = .ok (.iadd, 1) := by decide +kernel
theorem d_Md_same_118 : decode b_Md_same 118 = .ok (.iaload, 1) := by decide +kernel
theorem d_Md_same_119 : decode b_Md_same 119 = .ok (.aload_n 0, 1) := by decide +kernel
theorem d_Md_same_120 : decode b_Md_same 120 = .ok (.getfield 54, 3) := by decide +kernel
theorem d_Md_same_123 : decode b_Md_same 123 = .ok (.getfield 403, 3) := by decide +kernel
theorem d_Md_same_126 : decode b_Md_same 126 = .ok (.bipush 9, 2) := by decide +kernel
theorem d_Md_same_128 : decode b_Md_same 128 = .ok (.iload_n 2, 1) := by decide +kernel
theorem d_Md_same_129 : decode b_Md_same 129 = .ok (.imul, 1) := by decide +kernel
theorem d_Md_same_130 : decode b_Md_same 130 = .ok (.iload_n 3, 1) := by decide +kernel
theorem d_Md_same_131 : decode b_Md_same 131 = .ok (.iadd, 1) := by decide +kernel
theorem d_Md_same_132 : decode b_Md_same 132 = .ok (.iaload, 1) := by decide +kernel
theorem d_Md_same_133 : decode b_Md_same 133 = .ok (.if_icmp .ne 7, 3) := by decide +kernel
theorem d_Md_same_136 : decode b_Md_same 136 = .ok (.iconst 1, 1) := by decide +kernel
theorem d_Md_same_137 : decode b_Md_same 137 = .ok (.goto 4, 3) := by decide +kernel
theorem d_Md_same_140 : decode b_Md_same 140 = .ok (.iconst 0, 1) := by decide +kernel
theorem d_Md_same_141 : decode b_Md_same 141 = .ok (.istore_n 1, 1) := by decide +kernel
theorem d_Md_same_142 : decode b_Md_same 142 = .ok (.iinc 3 1, 3) := by decide +kernel
theorem d_Md_same_145 : decode b_Md_same 145 = .ok (.goto (-55), 3) := by decide +kernel
theorem d_Md_same_148 : decode b_Md_same 148 = .ok (.iinc 2 1, 3) := by decide +kernel
theorem d_Md_same_151 : decode b_Md_same 151 = .ok (.goto (-78), 3) := by decide +kernel
theorem d_Md_same_154 : decode b_Md_same 154 = .ok (.iload_n 1, 1) := by decide +kernel
theorem d_Md_same_155 : decode b_Md_same 155 = .ok (.ireturn, 1) := by decide +kernel
theorem d_Md_say_0 : decode b_Md_say 0 = .ok (.aload_n 0, 1) := by decide +kernel
theorem d_Md_say_1 : decode b_Md_say 1 = .ok (.getfield 63, 3) := by decide +kernel
theorem d_Md_say_4 : decode b_Md_say 4 = .ok (.aload_n 0, 1) := by decide +kernel
theorem d_Md_say_5 : decode b_Md_say 5 = .ok (.getfield 506, 3) := by decide +kernel
theorem d_Md_say_8 : decode b_Md_say 8 = .ok (.iload_n 1, 1) := by decide +kernel
theorem d_Md_say_9 : decode b_Md_say 9 = .ok (.i2b, 1) := by decide +kernel
theorem d_Md_say_10 : decode b_Md_say 10 = .ok (.bastore, 1) := by decide +kernel
theorem d_Md_say_11 : decode b_Md_say 11 = .ok (.aload_n 0, 1) := by decide +kernel
theorem d_Md_say_12 : decode b_Md_say 12 = .ok (.dup, 1) := by decide +kernel
theorem d_Md_say_13 : decode b_Md_say 13 = .ok (.getfield 506, 3) := by decide +kernel
theorem d_Md_say_16 : decode b_Md_say 16 = .ok (.iconst 1, 1) := by decide +kernel
theorem d_Md_say_17 : decode b_Md_say 17 = .ok (.iadd, 1) := by decide +kernel
theorem d_Md_say_18 : decode b_Md_say 18 = .ok (.putfield 506, 3) := by decide +kernel
theorem d_Md_say_21 : decode b_Md_say 21 = .ok (.return_, 1) := by decide +kernel
theorem d_Md_sayAll_0 : decode b_Md_sayAll 0 = .ok (.iconst 0, 1) := by decide +kernel
theorem d_Md_sayAll_1 : decode b_Md_sayAll 1 = .ok (.istore_n 2, 1) := by decide +kernel
theorem d_Md_sayAll_2 : decode b_Md_sayAll 2 = .ok (.iload_n 2, 1) := by decide +kernel
theorem d_Md_sayAll_3 : decode b_Md_sayAll 3 = .ok (.aload_n 1, 1) := by decide +kernel
theorem d_Md_sayAll_4 : decode b_Md_sayAll 4 = .ok (.invokevirtual 152, 3) := by decide +kernel
theorem d_Md_sayAll_7 : decode b_Md_sayAll 7 = .ok (.if_icmp .ge 18, 3) := by decide +kernel
theorem d_Md_sayAll_10 : decode b_Md_sayAll 10 = .ok (.aload_n 0, 1) := by decide +kernel
theorem d_Md_sayAll_11 : decode b_Md_sayAll 11 = .ok (.aload_n 1, 1) := by decide +kernel
theorem d_Md_sayAll_12 : decode b_Md_sayAll 12 = .ok (.iload_n 2, 1) := by decide +kernel
theorem d_Md_sayAll_13 : decode b_Md_sayAll 13 = .ok (.invokevirtual 158, 3) := by decide +kernel
theorem d_Md_sayAll_16 : decode b_Md_sayAll 16 = .ok (.invokevirtual 509, 3) := by decide +kernel
theorem d_Md_sayAll_19 : decode b_Md_sayAll 19 = .ok (.iinc 2 1, 3) := by decide +kernel
theorem d_Md_sayAll_22 : decode b_Md_sayAll 22 = .ok (.goto (-20), 3) := by decide +kernel
theorem d_Md_sayAll_25 : decode b_Md_sayAll 25 = .ok (.return_, 1) := by decide +kernel
theorem d_Md_sayBehind_0 : decode b_Md_sayBehind 0 = .ok (.aload_n 0, 1) := by decide +kernel
theorem d_Md_sayBehind_1 : decode b_Md_sayBehind 1 = .ok (.bipush 32, 2) := by decide +kernel
