theorem d_Md_sayBehind_3 : decode b_Md_sayBehind 3 = .ok (.invokevirtual 509, 3) := by decide +kernel
theorem d_Md_sayBehind_6 : decode b_Md_sayBehind 6 = .ok (.aload_n 0, 1) := by decide +kernel
theorem d_Md_sayBehind_7 : decode b_Md_sayBehind 7 = .ok (.lload_n 1, 1) := by decide +kernel
theorem d_Md_sayBehind_8 : decode b_Md_sayBehind 8 = .ok (.invokevirtual 514, 3) := by decide +kernel
theorem d_Md_sayBehind_11 : decode b_Md_sayBehind 11 = .ok (.return_, 1) := by decide +kernel
theorem d_Md_sayCode_0 : decode b_Md_sayCode 0 = .ok (.aload_n 0, 1) := by decide +kernel
theorem d_Md_sayCode_1 : decode b_Md_sayCode 1 = .ok (.ldc 210, 2) := by decide +kernel
theorem d_Md_sayCode_3 : decode b_Md_sayCode 3 = .ok (.invokevirtual 519, 3) := by decide +kernel
theorem d_Md_sayCode_6 : decode b_Md_sayCode 6 = .ok (.iconst 0, 1) := by decide +kernel
theorem d_Md_sayCode_7 : decode b_Md_sayCode 7 = .ok (.istore_n 1, 1) := by decide +kernel
theorem d_Md_sayCode_8 : decode b_Md_sayCode 8 = .ok (.iload_n 1, 1) := by decide +kernel
theorem d_Md_sayCode_9 : decode b_Md_sayCode 9 = .ok (.aload_n 0, 1) := by decide +kernel
theorem d_Md_sayCode_10 : decode b_Md_sayCode 10 = .ok (.getfield 37, 3) := by decide +kernel
theorem d_Md_sayCode_13 : decode b_Md_sayCode 13 = .ok (.getfield 312, 3) := by decide +kernel
theorem d_Md_sayCode_16 : decode b_Md_sayCode 16 = .ok (.if_icmp .ge 93, 3) := by decide +kernel
theorem d_Md_sayCode_19 : decode b_Md_sayCode 19 = .ok (.aload_n 0, 1) := by decide +kernel
theorem d_Md_sayCode_20 : decode b_Md_sayCode 20 = .ok (.bipush 32, 2) := by decide +kernel
theorem d_Md_sayCode_22 : decode b_Md_sayCode 22 = .ok (.invokevirtual 509, 3) := by decide +kernel
theorem d_Md_sayCode_25 : decode b_Md_sayCode 25 = .ok (.aload_n 0, 1) := by decide +kernel
theorem d_Md_sayCode_26 : decode b_Md_sayCode 26 = .ok (.aload_n 0, 1) := by decide +kernel
theorem d_Md_sayCode_27 : decode b_Md_sayCode 27 = .ok (.getfield 37, 3) := by decide +kernel
theorem d_Md_sayCode_30 : decode b_Md_sayCode 30 = .ok (.getfield 306, 3) := by decide +kernel
theorem d_Md_sayCode_33 : decode b_Md_sayCode 33 = .ok (.iload_n 1, 1) := by decide +kernel
theorem d_Md_sayCode_34 : decode b_Md_sayCode 34 = .ok (.iaload, 1) := by decide +kernel
theorem d_Md_sayCode_35 : decode b_Md_sayCode 35 = .ok (.iconst 1, 1) := by decide +kernel
theorem d_Md_sayCode_36 : decode b_Md_sayCode 36 = .ok (.if_icmp .ne 8, 3) := by decide +kernel
theorem d_Md_sayCode_39 : decode b_Md_sayCode 39 = .ok (.bipush 43, 2) := by decide +kernel
theorem d_Md_sayCode_41 : decode b_Md_sayCode 41 = .ok (.goto 5, 3) := by decide +kernel
theorem d_Md_sayCode_44 : decode b_Md_sayCode 44 = .ok (.bipush 45, 2) := by decide +kernel
theorem d_Md_sayCode_46 : decode b_Md_sayCode 46 = .ok (.invokevirtual 509, 3) := by decide +kernel
theorem d_Md_sayCode_49 : decode b_Md_sayCode 49 = .ok (.iconst 0, 1) := by decide +kernel
theorem d_Md_sayCode_50 : decode b_Md_sayCode 50 = .ok (.istore_n 2, 1) := by decide +kernel
theorem d_Md_sayCode_51 : decode b_Md_sayCode 51 = .ok (.iload_n 2, 1) := by decide +kernel
theorem d_Md_sayCode_52 : decode b_Md_sayCode 52 = .ok (.iconst 4, 1) := by decide +kernel
theorem d_Md_sayCode_53 : decode b_Md_sayCode 53 = .ok (.if_icmp .ge 44, 3) := by decide +kernel
theorem d_Md_sayCode_56 : decode b_Md_sayCode 56 = .ok (.aload_n 0, 1) := by decide +kernel
theorem d_Md_sayCode_57 : decode b_Md_sayCode 57 = .ok (.iload_n 2, 1) := by decide +kernel
theorem d_Md_sayCode_58 : decode b_Md_sayCode 58 = .ok (.ifCond .ne 9, 3) := by decide +kernel
theorem d_Md_sayCode_61 : decode b_Md_sayCode 61 = .ok (.ldc_w 530, 3) := by decide +kernel
theorem d_Md_sayCode_64 : decode b_Md_sayCode 64 = .ok (.goto 6, 3) := by decide +kernel
theorem d_Md_sayCode_67 : decode b_Md_sayCode 67 = .ok (.ldc_w 532, 3) := by decide +kernel
theorem d_Md_sayCode_70 : decode b_Md_sayCode 70 = .ok (.invokevirtual 519, 3) := by decide +kernel
theorem d_Md_sayCode_73 : decode b_Md_sayCode 73 = .ok (.aload_n 0, 1) := by decide +kernel
theorem d_Md_sayCode_74 : decode b_Md_sayCode 74 = .ok (.aload_n 0, 1) := by decide +kernel
theorem d_Md_sayCode_75 : decode b_Md_sayCode 75 = .ok (.getfield 37, 3) := by decide +kernel
theorem d_Md_sayCode_78 : decode b_Md_sayCode 78 = .ok (.getfield 318, 3) := by decide +kernel
theorem d_Md_sayCode_81 : decode b_Md_sayCode 81 = .ok (.iconst 4, 1) := by decide +kernel
theorem d_Md_sayCode_82 : decode b_Md_sayCode 82 = .ok (.iload_n 1, 1) := by decide +kernel
theorem d_Md_sayCode_83 : decode b_Md_sayCode 83 = .ok (.imul, 1) := by decide +kernel
theorem d_Md_sayCode_84 : decode b_Md_sayCode 84 = .ok (.iload_n 2, 1) := by decide +kernel
theorem d_Md_sayCode_85 : decode b_Md_sayCode 85 = .ok (.iadd, 1) := by decide +kernel
theorem d_Md_sayCode_86 : decode b_Md_sayCode 86 = .ok (.iaload, 1) := by decide +kernel
theorem d_Md_sayCode_87 : decode b_Md_sayCode 87 = .ok (.i2l, 1) := by decide +kernel
theorem d_Md_sayCode_88 : decode b_Md_sayCode 88 = .ok (.invokevirtual 514, 3) := by decide +kernel
theorem d_Md_sayCode_91 : decode b_Md_sayCode 91 = .ok (.iinc 2 1, 3) := by decide +kernel
theorem d_Md_sayCode_94 : decode b_Md_sayCode 94 = .ok (.goto (-43), 3) := by decide +kernel
theorem d_Md_sayCode_97 : decode b_Md_sayCode 97 = .ok (.aload_n 0, 1) := by decide +kernel
theorem d_Md_sayCode_98 : decode b_Md_sayCode 98 = .ok (.bipush 93, 2) := by decide +kernel
theorem d_Md_sayCode_100 : decode b_Md_sayCode 100 = .ok (.invokevirtual 509, 3) := by decide +kernel
theorem d_Md_sayCode_103 : decode b_Md_sayCode 103 = .ok (.iinc 1 1, 3) := by decide +kernel
theorem d_Md_sayCode_106 : decode b_Md_sayCode 106 = .ok (.goto (-98), 3) := by decide +kernel
theorem d_Md_sayCode_109 : decode b_Md_sayCode 109 = .ok (.aload_n 0, 1) := by decide +kernel
theorem d_Md_sayCode_110 : decode b_Md_sayCode 110 = .ok (.getfield 37, 3) := by decide +kernel
theorem d_Md_sayCode_113 : decode b_Md_sayCode 113 = .ok (.getfield 354, 3) := by decide +kernel
theorem d_Md_sayCode_116 : decode b_Md_sayCode 116 = .ok (.ifCond .le 22, 3) := by decide +kernel
theorem d_Md_sayCode_119 : decode b_Md_sayCode 119 = .ok (.aload_n 0, 1) := by decide +kernel
theorem d_Md_sayCode_120 : decode b_Md_sayCode 120 = .ok (.ldc_w 534, 3) := by decide +kernel
theorem d_Md_sayCode_123 : decode b_Md_sayCode 123 = .ok (.invokevirtual 519, 3) := by decide +kernel
theorem d_Md_sayCode_126 : decode b_Md_sayCode 126 = .ok (.aload_n 0, 1) := by decide +kernel
theorem d_Md_sayCode_127 : decode b_Md_sayCode 127 = .ok (.aload_n 0, 1) := by decide +kernel
theorem d_Md_sayCode_128 : decode b_Md_sayCode 128 = .ok (.getfield 37, 3) := by decide +kernel
theorem d_Md_sayCode_131 : decode b_Md_sayCode 131 = .ok (.getfield 354, 3) := by decide +kernel
theorem d_Md_sayCode_134 : decode b_Md_sayCode 134 = .ok (.i2l, 1) := by decide +kernel
theorem d_Md_sayCode_135 : decode b_Md_sayCode 135 = .ok (.invokevirtual 536, 3) := by decide +kernel
theorem d_Md_sayCode_138 : decode b_Md_sayCode 138 = .ok (.aload_n 0, 1) := by decide +kernel
theorem d_Md_sayCode_139 : decode b_Md_sayCode 139 = .ok (.bipush 10, 2) := by decide +kernel
theorem d_Md_sayCode_141 : decode b_Md_sayCode 141 = .ok (.invokevirtual 509, 3) := by decide +kernel
theorem d_Md_sayCode_144 : decode b_Md_sayCode 144 = .ok (.return_, 1) := by decide +kernel
theorem d_Md_sayNumber_0 : decode b_Md_sayNumber 0 = .ok (.lload_n 1, 1) := by decide +kernel
theorem d_Md_sayNumber_1 : decode b_Md_sayNumber 1 = .ok (.lconst 0, 1) := by decide +kernel
theorem d_Md_sayNumber_2 : decode b_Md_sayNumber 2 = .ok (.lcmp, 1) := by decide +kernel
theorem d_Md_sayNumber_3 : decode b_Md_sayNumber 3 = .ok (.ifCond .ge 8, 3) := by decide +kernel
theorem d_Md_sayNumber_6 : decode b_Md_sayNumber 6 = .ok (.lload_n 1, 1) := by decide +kernel
theorem d_Md_sayNumber_7 : decode b_Md_sayNumber 7 = .ok (.lneg, 1) := by decide +kernel
theorem d_Md_sayNumber_8 : decode b_Md_sayNumber 8 = .ok (.goto 4, 3) := by decide +kernel
theorem d_Md_sayNumber_11 : decode b_Md_sayNumber 11 = .ok (.lload_n 1, 1) := by decide +kernel
theorem d_Md_sayNumber_12 : decode b_Md_sayNumber 12 = .ok (.lstore_n 3, 1) := by decide +kernel
theorem d_Md_sayNumber_13 : decode b_Md_sayNumber 13 = .ok (.lload_n 1, 1) := by decide +kernel
theorem d_Md_sayNumber_14 : decode b_Md_sayNumber 14 = .ok (.lconst 0, 1) := by decide +kernel
theorem d_Md_sayNumber_15 : decode b_Md_sayNumber 15 = .ok (.lcmp, 1) := by decide +kernel
theorem d_Md_sayNumber_16 : decode b_Md_sayNumber 16 = .ok (.ifCond .ge 9, 3) := by decide +kernel
theorem d_Md_sayNumber_19 : decode b_Md_sayNumber 19 = .ok (.aload_n 0, 1) := by decide +kernel
theorem d_Md_sayNumber_20 : decode b_Md_sayNumber 20 = .ok (.bipush 45, 2) := by decide +kernel
theorem d_Md_sayNumber_22 : decode b_Md_sayNumber 22 = .ok (.invokevirtual 509, 3) := by decide +kernel
theorem d_Md_sayNumber_25 : decode b_Md_sayNumber 25 = .ok (.lconst 1, 1) := by decide +kernel
theorem d_Md_sayNumber_26 : decode b_Md_sayNumber 26 = .ok (.lstore 5, 2) := by decide +kernel
theorem d_Md_sayNumber_28 : decode b_Md_sayNumber 28 = .ok (.lload_n 3, 1) := by decide +kernel
theorem d_Md_sayNumber_29 : decode b_Md_sayNumber 29 = .ok (.lload 5, 2) := by decide +kernel
theorem d_Md_sayNumber_31 : decode b_Md_sayNumber 31 = .ok (.ldiv, 1) := by decide +kernel
theorem d_Md_sayNumber_32 : decode b_Md_sayNumber 32 = .ok (.ldc2_w 512, 3) := by decide +kernel
theorem d_Md_sayNumber_35 : decode b_Md_sayNumber 35 = .ok (.lcmp, 1) := by decide +kernel
theorem d_Md_sayNumber_36 : decode b_Md_sayNumber 36 = .ok (.ifCond .le 14, 3) := by decide +kernel
theorem d_Md_sayNumber_39 : decode b_Md_sayNumber 39 = .ok (.ldc2_w 162, 3) := by decide +kernel
theorem d_Md_sayNumber_42 : decode b_Md_sayNumber 42 = .ok (.lload 5, 2) := by decide +kernel
theorem d_Md_sayNumber_44 : decode b_Md_sayNumber 44 = .ok (.lmul, 1) := by decide +kernel
theorem d_Md_sayNumber_45 : decode b_Md_sayNumber 45 = .ok (.lstore 5, 2) := by decide +kernel
theorem d_Md_sayNumber_47 : decode b_Md_sayNumber 47 = .ok (.goto (-19), 3) := by decide +kernel
theorem d_Md_sayNumber_50 : decode b_Md_sayNumber 50 = .ok (.lload 5, 2) := by decide +kernel
theorem d_Md_sayNumber_52 : decode b_Md_sayNumber 52 = .ok (.lconst 0, 1) := by decide +kernel
theorem d_Md_sayNumber_53 : decode b_Md_sayNumber 53 = .ok (.lcmp, 1) := by decide +kernel
theorem d_Md_sayNumber_54 : decode b_Md_sayNumber 54 = .ok (.ifCond .le 31, 3) := by decide +kernel
theorem d_Md_sayNumber_57 : decode b_Md_sayNumber 57 = .ok (.aload_n 0, 1) := by decide +kernel
theorem d_Md_sayNumber_58 : decode b_Md_sayNumber 58 = .ok (.ldc2_w 164, 3) := by decide +kernel
theorem d_Md_sayNumber_61 : decode b_Md_sayNumber 61 = .ok (.lload_n 3, 1) := by decide +kernel
theorem d_Md_sayNumber_62 : decode b_Md_sayNumber 62 = .ok (.lload 5, 2) := by decide +kernel
theorem d_Md_sayNumber_64 : decode b_Md_sayNumber 64 = .ok (.ldiv, 1) := by decide +kernel
theorem d_Md_sayNumber_65 : decode b_Md_sayNumber 65 = .ok (.ldc2_w 162, 3) := by decide +kernel
theorem d_Md_sayNumber_68 : decode b_Md_sayNumber 68 = .ok (.lrem, 1) := by decide +kernel
theorem d_Md_sayNumber_69 : decode b_Md_sayNumber 69 = .ok (.ladd, 1) := by decide +kernel
theorem d_Md_sayNumber_70 : decode b_Md_sayNumber 70 = .ok (.l2i, 1) := by decide +kernel
theorem d_Md_sayNumber_71 : decode b_Md_sayNumber 71 = .ok (.invokevirtual 509, 3) := by decide +kernel
theorem d_Md_sayNumber_74 : decode b_Md_sayNumber 74 = .ok (.lload 5, 2) := by decide +kernel
theorem d_Md_sayNumber_76 : decode b_Md_sayNumber 76 = .ok (.ldc2_w 162, 3) := by decide +kernel
theorem d_Md_sayNumber_79 : decode b_Md_sayNumber 79 = .ok (.ldiv, 1) := by decide +kernel
theorem d_Md_sayNumber_80 : decode b_Md_sayNumber 80 = .ok (.lstore 5, 2) := by decide +kernel
theorem d_Md_sayNumber_82 : decode b_Md_sayNumber 82 = .ok (.goto (-32), 3) := by decide +kernel
theorem d_Md_sayNumber_85 : decode b_Md_sayNumber 85 = .ok (.return_, 1) := by decide +kernel
theorem d_Md_sayPoly_0 : decode b_Md_sayPoly 0 = .ok (.aload_n 0, 1) := by decide +kernel
theorem d_Md_sayPoly_1 : decode b_Md_sayPoly 1 = .ok (.iload_n 1, 1) := by decide +kernel
theorem d_Md_sayPoly_2 : decode b_Md_sayPoly 2 = .ok (.invokestatic 245, 3) := by decide +kernel
theorem d_Md_sayPoly_5 : decode b_Md_sayPoly 5 = .ok (.invokevirtual 519, 3) := by decide +kernel
theorem d_Md_sayPoly_8 : decode b_Md_sayPoly 8 = .ok (.aload_n 0, 1) := by decide +kernel
theorem d_Md_sayPoly_9 : decode b_Md_sayPoly 9 = .ok (.ldc_w 539, 3) := by decide +kernel
theorem d_Md_sayPoly_12 : decode b_Md_sayPoly 12 = .ok (.invokevirtual 519, 3) := by decide +kernel
theorem d_Md_sayPoly_15 : decode b_Md_sayPoly 15 = .ok (.iconst 0, 1) := by decide +kernel
theorem d_Md_sayPoly_16 : decode b_Md_sayPoly 16 = .ok (.istore_n 2, 1) := by decide +kernel
theorem d_Md_sayPoly_17 : decode b_Md_sayPoly 17 = .ok (.bipush (-100), 2) := by decide +kernel
theorem d_Md_sayPoly_19 : decode b_Md_sayPoly 19 = .ok (.istore_n 3, 1) := by decide +kernel
theorem d_Md_sayPoly_20 : decode b_Md_sayPoly 20 = .ok (.iload_n 3, 1) := by decide +kernel
theorem d_Md_sayPoly_21 : decode b_Md_sayPoly 21 = .ok (.bipush 100, 2) := by decide +kernel
theorem d_Md_sayPoly_23 : decode b_Md_sayPoly 23 = .ok (.if_icmp .gt 150, 3) := by decide +kernel
theorem d_Md_sayPoly_26 : decode b_Md_sayPoly 26 = .ok (.aload_n 0, 1) := by decide +kernel
theorem d_Md_sayPoly_27 : decode b_Md_sayPoly 27 = .ok (.getfield 96, 3) := by decide +kernel
theorem d_Md_sayPoly_30 : decode b_Md_sayPoly 30 = .ok (.bipush 100, 2) := by decide +kernel
theorem d_Md_sayPoly_32 : decode b_Md_sayPoly 32 = .ok (.iload_n 3, 1) := by decide +kernel
theorem d_Md_sayPoly_33 : decode b_Md_sayPoly 33 = .ok (.iadd, 1) := by decide +kernel
theorem d_Md_sayPoly_34 : decode b_Md_sayPoly 34 = .ok (.laload, 1) := by decide +kernel
theorem d_Md_sayPoly_35 : decode b_Md_sayPoly 35 = .ok (.lstore 4, 2) := by decide +kernel
theorem d_Md_sayPoly_37 : decode b_Md_sayPoly 37 = .ok (.lload 4, 2) := by decide +kernel
theorem d_Md_sayPoly_39 : decode b_Md_sayPoly 39 = .ok (.lconst 0, 1) := by decide +kernel
theorem d_Md_sayPoly_40 : decode b_Md_sayPoly 40 = .ok (.lcmp, 1) := by decide +kernel
theorem d_Md_sayPoly_41 : decode b_Md_sayPoly 41 = .ok (.ifCond .ne 6, 3) := by decide +kernel
theorem d_Md_sayPoly_44 : decode b_Md_sayPoly 44 = .ok (.goto 123, 3) := by decide +kernel
theorem d_Md_sayPoly_47 : decode b_Md_sayPoly 47 = .ok (.iload_n 2, 1) := by decide +kernel
theorem d_Md_sayPoly_48 : decode b_Md_sayPoly 48 = .ok (.ifCond .eq 26, 3) := by decide +kernel
theorem d_Md_sayPoly_51 : decode b_Md_sayPoly 51 = .ok (.aload_n 0, 1) := by decide +kernel
theorem d_Md_sayPoly_52 : decode b_Md_sayPoly 52 = .ok (.lload 4, 2) := by decide +kernel
theorem d_Md_sayPoly_54 : decode b_Md_sayPoly 54 = .ok (.lconst 0, 1) := by decide +kernel
theorem d_Md_sayPoly_55 : decode b_Md_sayPoly 55 = .ok (.lcmp, 1) := by decide +kernel
theorem d_Md_sayPoly_56 : decode b_Md_sayPoly 56 = .ok (.ifCond .ge 9, 3) := by decide +kernel
theorem d_Md_sayPoly_59 : decode b_Md_sayPoly 59 = .ok (.ldc_w 541, 3) := by decide +kernel
theorem d_Md_sayPoly_62 : decode b_Md_sayPoly 62 = .ok (.goto 6, 3) := by decide +kernel
theorem d_Md_sayPoly_65 : decode b_Md_sayPoly 65 = .ok (.ldc_w 543, 3) := by decide +kernel
theorem d_Md_sayPoly_68 : decode b_Md_sayPoly 68 = .ok (.invokevirtual 519, 3) := by decide +kernel
theorem d_Md_sayPoly_71 : decode b_Md_sayPoly 71 = .ok (.goto 16, 3) := by decide +kernel
theorem d_Md_sayPoly_74 : decode b_Md_sayPoly 74 = .ok (.lload 4, 2) := by decide +kernel
theorem d_Md_sayPoly_76 : decode b_Md_sayPoly 76 = .ok (.lconst 0, 1) := by decide +kernel
theorem d_Md_sayPoly_77 : decode b_Md_sayPoly 77 = .ok (.lcmp, 1) := by decide +kernel
theorem d_Md_sayPoly_78 : decode b_Md_sayPoly 78 = .ok (.ifCond .ge 9, 3) := by decide +kernel
theorem d_Md_sayPoly_81 : decode b_Md_sayPoly 81 = .ok (.aload_n 0, 1) := by decide +kernel
theorem d_Md_sayPoly_82 : decode b_Md_sayPoly 82 = .ok (.bipush 45, 2) := by decide +kernel
theorem d_Md_sayPoly_84 : decode b_Md_sayPoly 84 = .ok (.invokevirtual 509, 3) := by decide +kernel
theorem d_Md_sayPoly_87 : decode b_Md_sayPoly 87 = .ok (.iconst 1, 1) := by decide +kernel
theorem d_Md_sayPoly_88 : decode b_Md_sayPoly 88 = .ok (.istore_n 2, 1) := by decide +kernel
theorem d_Md_sayPoly_89 : decode b_Md_sayPoly 89 = .ok (.lload 4, 2) := by decide +kernel
theorem d_Md_sayPoly_91 : decode b_Md_sayPoly 91 = .ok (.lconst 0, 1) := by decide +kernel
theorem d_Md_sayPoly_92 : decode b_Md_sayPoly 92 = .ok (.lcmp, 1) := by decide +kernel
theorem d_Md_sayPoly_93 : decode b_Md_sayPoly 93 = .ok (.ifCond .ge 9, 3) := by decide +kernel
theorem d_Md_sayPoly_96 : decode b_Md_sayPoly 96 = .ok (.lload 4, 2) := by decide +kernel
theorem d_Md_sayPoly_98 : decode b_Md_sayPoly 98 = .ok (.lneg, 1) := by decide +kernel
theorem d_Md_sayPoly_99 : decode b_Md_sayPoly 99 = .ok (.goto 5, 3) := by decide +kernel
theorem d_Md_sayPoly_102 : decode b_Md_sayPoly 102 = .ok (.lload 4, 2) := by decide +kernel
theorem d_Md_sayPoly_104 : decode b_Md_sayPoly 104 = .ok (.lstore 6, 2) := by decide +kernel
theorem d_Md_sayPoly_106 : decode b_Md_sayPoly 106 = .ok (.iload_n 3, 1) := by decide +kernel
theorem d_Md_sayPoly_107 : decode b_Md_sayPoly 107 = .ok (.ifCond .eq 10, 3) := by decide +kernel
theorem d_Md_sayPoly_110 : decode b_Md_sayPoly 110 = .ok (.lload 6, 2) := by decide +kernel
theorem d_Md_sayPoly_112 : decode b_Md_sayPoly 112 = .ok (.lconst 1, 1) := by decide +kernel
theorem d_Md_sayPoly_113 : decode b_Md_sayPoly 113 = .ok (.lcmp, 1) := by decide +kernel
theorem d_Md_sayPoly_114 : decode b_Md_sayPoly 114 = .ok (.ifCond .eq 9, 3) := by decide +kernel
theorem d_Md_sayPoly_117 : decode b_Md_sayPoly 117 = .ok (.aload_n 0, 1) := by decide +kernel
theorem d_Md_sayPoly_118 : decode b_Md_sayPoly 118 = .ok (.lload 6, 2) := by decide +kernel
theorem d_Md_sayPoly_120 : decode b_Md_sayPoly 120 = .ok (.invokevirtual 514, 3) := by decide +kernel
theorem d_Md_sayPoly_123 : decode b_Md_sayPoly 123 = .ok (.iload_n 3, 1) := by decide +kernel
theorem d_Md_sayPoly_124 : decode b_Md_sayPoly 124 = .ok (.ifCond .ne 6, 3) := by decide +kernel
theorem d_Md_sayPoly_127 : decode b_Md_sayPoly 127 = .ok (.goto 40, 3) := by decide +kernel
theorem d_Md_sayPoly_130 : decode b_Md_sayPoly 130 = .ok (.aload_n 0, 1) := by decide +kernel
theorem d_Md_sayPoly_131 : decode b_Md_sayPoly 131 = .ok (.iload_n 1, 1) := by decide +kernel
theorem d_Md_sayPoly_132 : decode b_Md_sayPoly 132 = .ok (.bipush 18, 2) := by decide +kernel
theorem d_Md_sayPoly_134 : decode b_Md_sayPoly 134 = .ok (.if_icmp .ne 8, 3) := by decide +kernel
theorem d_Md_sayPoly_137 : decode b_Md_sayPoly 137 = .ok (.bipush 116, 2) := by decide +kernel
