theorem d_Di_lift_19 : decode b_Di_lift 19 = .ok (.aload_n 0, 1) := by decide +kernel
theorem d_Di_lift_20 : decode b_Di_lift 20 = .ok (.iload_n 2, 1) := by decide +kernel
theorem d_Di_lift_21 : decode b_Di_lift 21 = .ok (.invokevirtual 84, 3) := by decide +kernel
theorem d_Di_lift_24 : decode b_Di_lift 24 = .ok (.aload_n 0, 1) := by decide +kernel
theorem d_Di_lift_25 : decode b_Di_lift 25 = .ok (.iload_n 2, 1) := by decide +kernel
theorem d_Di_lift_26 : decode b_Di_lift 26 = .ok (.invokevirtual 81, 3) := by decide +kernel
theorem d_Di_lift_29 : decode b_Di_lift 29 = .ok (.invokevirtual 90, 3) := by decide +kernel
theorem d_Di_lift_32 : decode b_Di_lift 32 = .ok (.aload_n 0, 1) := by decide +kernel
theorem d_Di_lift_33 : decode b_Di_lift 33 = .ok (.dup, 1) := by decide +kernel
theorem d_Di_lift_34 : decode b_Di_lift 34 = .ok (.getfield 36, 3) := by decide +kernel
theorem d_Di_lift_37 : decode b_Di_lift 37 = .ok (.iconst 1, 1) := by decide +kernel
theorem d_Di_lift_38 : decode b_Di_lift 38 = .ok (.isub, 1) := by decide +kernel
theorem d_Di_lift_39 : decode b_Di_lift 39 = .ok (.putfield 36, 3) := by decide +kernel
theorem d_Di_lift_42 : decode b_Di_lift 42 = .ok (.return_, 1) := by decide +kernel
theorem d_Sh_findArcs_75 : decode b_Sh_findArcs 75 = .ok (.iinc 2 1, 3) := by decide +kernel
theorem d_Sh_findArcs_78 : decode b_Sh_findArcs 78 = .ok (.goto (-29), 3) := by decide +kernel
theorem d_Sh_findArcs_49 : decode b_Sh_findArcs 49 = .ok (.iload_n 2, 1) := by decide +kernel
theorem d_Sh_findArcs_50 : decode b_Sh_findArcs 50 = .ok (.aload_n 0, 1) := by decide +kernel
theorem d_Sh_findArcs_51 : decode b_Sh_findArcs 51 = .ok (.getfield 48, 3) := by decide +kernel
theorem d_Sh_findArcs_54 : decode b_Sh_findArcs 54 = .ok (.if_icmp .ge 27, 3) := by decide +kernel
theorem d_Sh_findArcs_81 : decode b_Sh_findArcs 81 = .ok (.iload_n 1, 1) := by decide +kernel
theorem d_Sh_findArcs_82 : decode b_Sh_findArcs 82 = .ok (.ireturn, 1) := by decide +kernel
theorem d_Sh_findArcs_57 : decode b_Sh_findArcs 57 = .ok (.aload_n 0, 1) := by decide +kernel
theorem d_Sh_findArcs_58 : decode b_Sh_findArcs 58 = .ok (.getfield 30, 3) := by decide +kernel
theorem d_Sh_findArcs_61 : decode b_Sh_findArcs 61 = .ok (.iload_n 2, 1) := by decide +kernel
theorem d_Sh_findArcs_62 : decode b_Sh_findArcs 62 = .ok (.iaload, 1) := by decide +kernel
theorem d_Sh_findArcs_63 : decode b_Sh_findArcs 63 = .ok (.ifCond .ge 12, 3) := by decide +kernel
theorem d_Sh_findArcs_66 : decode b_Sh_findArcs 66 = .ok (.aload_n 0, 1) := by decide +kernel
theorem d_Sh_findArcs_67 : decode b_Sh_findArcs 67 = .ok (.iload_n 2, 1) := by decide +kernel
theorem d_Sh_findArcs_68 : decode b_Sh_findArcs 68 = .ok (.iload_n 1, 1) := by decide +kernel
theorem d_Sh_findArcs_69 : decode b_Sh_findArcs 69 = .ok (.invokevirtual 122, 3) := by decide +kernel
theorem d_Sh_findArcs_72 : decode b_Sh_findArcs 72 = .ok (.iinc 1 1, 3) := by decide +kernel
theorem d_Sh_findArcs_41 : decode b_Sh_findArcs 41 = .ok (.iinc 2 1, 3) := by decide +kernel
theorem d_Sh_findArcs_44 : decode b_Sh_findArcs 44 = .ok (.goto (-32), 3) := by decide +kernel
theorem d_Sh_findArcs_12 : decode b_Sh_findArcs 12 = .ok (.iload_n 2, 1) := by decide +kernel
theorem d_Sh_findArcs_13 : decode b_Sh_findArcs 13 = .ok (.aload_n 0, 1) := by decide +kernel
theorem d_Sh_findArcs_14 : decode b_Sh_findArcs 14 = .ok (.getfield 48, 3) := by decide +kernel
theorem d_Sh_findArcs_17 : decode b_Sh_findArcs 17 = .ok (.if_icmp .ge 30, 3) := by decide +kernel
theorem d_Sh_findArcs_47 : decode b_Sh_findArcs 47 = .ok (.iconst 0, 1) := by decide +kernel
theorem d_Sh_findArcs_48 : decode b_Sh_findArcs 48 = .ok (.istore_n 2, 1) := by decide +kernel
theorem d_Sh_findArcs_20 : decode b_Sh_findArcs 20 = .ok (.aload_n 0, 1) := by decide +kernel
theorem d_Sh_findArcs_21 : decode b_Sh_findArcs 21 = .ok (.getfield 18, 3) := by decide +kernel
theorem d_Sh_findArcs_24 : decode b_Sh_findArcs 24 = .ok (.iload_n 2, 1) := by decide +kernel
theorem d_Sh_findArcs_25 : decode b_Sh_findArcs 25 = .ok (.iaload, 1) := by decide +kernel
theorem d_Sh_findArcs_26 : decode b_Sh_findArcs 26 = .ok (.invokestatic 114, 3) := by decide +kernel
theorem d_Sh_findArcs_29 : decode b_Sh_findArcs 29 = .ok (.ifCond .ne 12, 3) := by decide +kernel
theorem d_Sh_findArcs_32 : decode b_Sh_findArcs 32 = .ok (.aload_n 0, 1) := by decide +kernel
theorem d_Sh_findArcs_33 : decode b_Sh_findArcs 33 = .ok (.iload_n 2, 1) := by decide +kernel
theorem d_Sh_findArcs_34 : decode b_Sh_findArcs 34 = .ok (.iload_n 1, 1) := by decide +kernel
theorem d_Sh_findArcs_35 : decode b_Sh_findArcs 35 = .ok (.invokevirtual 122, 3) := by decide +kernel
theorem d_Sh_findArcs_38 : decode b_Sh_findArcs 38 = .ok (.iinc 1 1, 3) := by decide +kernel
theorem d_Sh_findArcs_0 : decode b_Sh_findArcs 0 = .ok (.iconst 0, 1) := by decide +kernel
theorem d_Sh_findArcs_1 : decode b_Sh_findArcs 1 = .ok (.istore_n 1, 1) := by decide +kernel
theorem d_Sh_findArcs_2 : decode b_Sh_findArcs 2 = .ok (.aload_n 0, 1) := by decide +kernel
theorem d_Sh_findArcs_3 : decode b_Sh_findArcs 3 = .ok (.getfield 30, 3) := by decide +kernel
theorem d_Sh_findArcs_6 : decode b_Sh_findArcs 6 = .ok (.iconst (-1), 1) := by decide +kernel
theorem d_Sh_findArcs_7 : decode b_Sh_findArcs 7 = .ok (.invokestatic 96, 3) := by decide +kernel
theorem d_Sh_findArcs_10 : decode b_Sh_findArcs 10 = .ok (.iconst 0, 1) := by decide +kernel
theorem d_Sh_findArcs_11 : decode b_Sh_findArcs 11 = .ok (.istore_n 2, 1) := by decide +kernel
theorem d_Mi_addColumn_66 : decode b_Mi_addColumn 66 = .ok (.iload 10, 2) := by decide +kernel
theorem d_Mi_addColumn_68 : decode b_Mi_addColumn 68 = .ok (.iload_n 2, 1) := by decide +kernel
theorem d_Mi_addColumn_69 : decode b_Mi_addColumn 69 = .ok (.if_icmp .gt 62, 3) := by decide +kernel
theorem d_Mi_addColumn_131 : decode b_Mi_addColumn 131 = .ok (.return_, 1) := by decide +kernel
theorem d_Mi_addColumn_72 : decode b_Mi_addColumn 72 = .ok (.iload 7, 2) := by decide +kernel
theorem d_Mi_addColumn_74 : decode b_Mi_addColumn 74 = .ok (.aload_n 0, 1) := by decide +kernel
theorem d_Mi_addColumn_75 : decode b_Mi_addColumn 75 = .ok (.getfield 11, 3) := by decide +kernel
theorem d_Mi_addColumn_78 : decode b_Mi_addColumn 78 = .ok (.iload 8, 2) := by decide +kernel
theorem d_Mi_addColumn_80 : decode b_Mi_addColumn 80 = .ok (.iload 10, 2) := by decide +kernel
theorem d_Mi_addColumn_82 : decode b_Mi_addColumn 82 = .ok (.iadd, 1) := by decide +kernel
theorem d_Mi_addColumn_83 : decode b_Mi_addColumn 83 = .ok (.iaload, 1) := by decide +kernel
theorem d_Mi_addColumn_84 : decode b_Mi_addColumn 84 = .ok (.imul, 1) := by decide +kernel
theorem d_Mi_addColumn_85 : decode b_Mi_addColumn 85 = .ok (.istore 11, 2) := by decide +kernel
theorem d_Mi_addColumn_87 : decode b_Mi_addColumn 87 = .ok (.aload_n 0, 1) := by decide +kernel
theorem d_Mi_addColumn_88 : decode b_Mi_addColumn 88 = .ok (.getfield 11, 3) := by decide +kernel
theorem d_Mi_addColumn_91 : decode b_Mi_addColumn 91 = .ok (.iload 9, 2) := by decide +kernel
theorem d_Mi_addColumn_93 : decode b_Mi_addColumn 93 = .ok (.iload 10, 2) := by decide +kernel
theorem d_Mi_addColumn_95 : decode b_Mi_addColumn 95 = .ok (.iadd, 1) := by decide +kernel
theorem d_Mi_addColumn_96 : decode b_Mi_addColumn 96 = .ok (.dup2, 1) := by decide +kernel
theorem d_Mi_addColumn_97 : decode b_Mi_addColumn 97 = .ok (.iaload, 1) := by decide +kernel
theorem d_Mi_addColumn_98 : decode b_Mi_addColumn 98 = .ok (.iload 4, 2) := by decide +kernel
theorem d_Mi_addColumn_100 : decode b_Mi_addColumn 100 = .ok (.iload 11, 2) := by decide +kernel
theorem d_Mi_addColumn_102 : decode b_Mi_addColumn 102 = .ok (.imul, 1) := by decide +kernel
theorem d_Mi_addColumn_103 : decode b_Mi_addColumn 103 = .ok (.iadd, 1) := by decide +kernel
theorem d_Mi_addColumn_104 : decode b_Mi_addColumn 104 = .ok (.iastore, 1) := by decide +kernel
theorem d_Mi_addColumn_105 : decode b_Mi_addColumn 105 = .ok (.aload_n 0, 1) := by decide +kernel
theorem d_Mi_addColumn_106 : decode b_Mi_addColumn 106 = .ok (.getfield 11, 3) := by decide +kernel
theorem d_Mi_addColumn_109 : decode b_Mi_addColumn 109 = .ok (.iload 9, 2) := by decide +kernel
theorem d_Mi_addColumn_111 : decode b_Mi_addColumn 111 = .ok (.iload 10, 2) := by decide +kernel
theorem d_Mi_addColumn_113 : decode b_Mi_addColumn 113 = .ok (.iadd, 1) := by decide +kernel
theorem d_Mi_addColumn_114 : decode b_Mi_addColumn 114 = .ok (.iconst 1, 1) := by decide +kernel
theorem d_Mi_addColumn_115 : decode b_Mi_addColumn 115 = .ok (.iadd, 1) := by decide +kernel
theorem d_Mi_addColumn_116 : decode b_Mi_addColumn 116 = .ok (.dup2, 1) := by decide +kernel
theorem d_Mi_addColumn_117 : decode b_Mi_addColumn 117 = .ok (.iaload, 1) := by decide +kernel
theorem d_Mi_addColumn_118 : decode b_Mi_addColumn 118 = .ok (.iload 5, 2) := by decide +kernel
theorem d_Mi_addColumn_120 : decode b_Mi_addColumn 120 = .ok (.iload 11, 2) := by decide +kernel
theorem d_Mi_addColumn_122 : decode b_Mi_addColumn 122 = .ok (.imul, 1) := by decide +kernel
theorem d_Mi_addColumn_123 : decode b_Mi_addColumn 123 = .ok (.iadd, 1) := by decide +kernel
theorem d_Mi_addColumn_124 : decode b_Mi_addColumn 124 = .ok (.iastore, 1) := by decide +kernel
theorem d_Mi_addColumn_125 : decode b_Mi_addColumn 125 = .ok (.iinc 10 1, 3) := by decide +kernel
theorem d_Mi_addColumn_128 : decode b_Mi_addColumn 128 = .ok (.goto (-62), 3) := by decide +kernel
theorem d_Mi_addColumn_48 : decode b_Mi_addColumn 48 = .ok (.istore 7, 2) := by decide +kernel
theorem d_Mi_addColumn_50 : decode b_Mi_addColumn 50 = .ok (.iload_n 1, 1) := by decide +kernel
theorem d_Mi_addColumn_51 : decode b_Mi_addColumn 51 = .ok (.bipush 10, 2) := by decide +kernel
theorem d_Mi_addColumn_53 : decode b_Mi_addColumn 53 = .ok (.imul, 1) := by decide +kernel
theorem d_Mi_addColumn_54 : decode b_Mi_addColumn 54 = .ok (.istore 8, 2) := by decide +kernel
theorem d_Mi_addColumn_56 : decode b_Mi_addColumn 56 = .ok (.iload 6, 2) := by decide +kernel
theorem d_Mi_addColumn_58 : decode b_Mi_addColumn 58 = .ok (.bipush 10, 2) := by decide +kernel
theorem d_Mi_addColumn_60 : decode b_Mi_addColumn 60 = .ok (.imul, 1) := by decide +kernel
theorem d_Mi_addColumn_61 : decode b_Mi_addColumn 61 = .ok (.istore 9, 2) := by decide +kernel
theorem d_Mi_addColumn_63 : decode b_Mi_addColumn 63 = .ok (.iconst 0, 1) := by decide +kernel
theorem d_Mi_addColumn_64 : decode b_Mi_addColumn 64 = .ok (.istore 10, 2) := by decide +kernel
theorem d_Mi_addColumn_0 : decode b_Mi_addColumn 0 = .ok (.iload_n 3, 1) := by decide +kernel
theorem d_Mi_addColumn_1 : decode b_Mi_addColumn 1 = .ok (.aload_n 0, 1) := by decide +kernel
theorem d_Mi_addColumn_2 : decode b_Mi_addColumn 2 = .ok (.getfield 35, 3) := by decide +kernel
theorem d_Mi_addColumn_5 : decode b_Mi_addColumn 5 = .ok (.if_icmp .ge 12, 3) := by decide +kernel
theorem d_Mi_addColumn_17 : decode b_Mi_addColumn 17 = .ok (.return_, 1) := by decide +kernel
theorem d_Mi_addColumn_8 : decode b_Mi_addColumn 8 = .ok (.iload_n 1, 1) := by decide +kernel
theorem d_Mi_addColumn_9 : decode b_Mi_addColumn 9 = .ok (.iload_n 3, 1) := by decide +kernel
theorem d_Mi_addColumn_10 : decode b_Mi_addColumn 10 = .ok (.ishr, 1) := by decide +kernel
theorem d_Mi_addColumn_11 : decode b_Mi_addColumn 11 = .ok (.iconst 1, 1) := by decide +kernel
theorem d_Mi_addColumn_12 : decode b_Mi_addColumn 12 = .ok (.iand, 1) := by decide +kernel
theorem d_Mi_addColumn_13 : decode b_Mi_addColumn 13 = .ok (.iconst 1, 1) := by decide +kernel
theorem d_Mi_addColumn_14 : decode b_Mi_addColumn 14 = .ok (.if_icmp .ne 4, 3) := by decide +kernel
theorem d_Mi_addColumn_18 : decode b_Mi_addColumn 18 = .ok (.iload_n 1, 1) := by decide +kernel
theorem d_Mi_addColumn_19 : decode b_Mi_addColumn 19 = .ok (.iconst 1, 1) := by decide +kernel
theorem d_Mi_addColumn_20 : decode b_Mi_addColumn 20 = .ok (.iload_n 3, 1) := by decide +kernel
theorem d_Mi_addColumn_21 : decode b_Mi_addColumn 21 = .ok (.ishl, 1) := by decide +kernel
theorem d_Mi_addColumn_22 : decode b_Mi_addColumn 22 = .ok (.ior, 1) := by decide +kernel
theorem d_Mi_addColumn_23 : decode b_Mi_addColumn 23 = .ok (.istore 6, 2) := by decide +kernel
theorem d_Mi_addColumn_25 : decode b_Mi_addColumn 25 = .ok (.aload_n 0, 1) := by decide +kernel
theorem d_Mi_addColumn_26 : decode b_Mi_addColumn 26 = .ok (.iload 6, 2) := by decide +kernel
theorem d_Mi_addColumn_28 : decode b_Mi_addColumn 28 = .ok (.invokevirtual 64, 3) := by decide +kernel
theorem d_Mi_addColumn_31 : decode b_Mi_addColumn 31 = .ok (.iload_n 1, 1) := by decide +kernel
theorem d_Mi_addColumn_32 : decode b_Mi_addColumn 32 = .ok (.iload_n 3, 1) := by decide +kernel
theorem d_Mi_addColumn_33 : decode b_Mi_addColumn 33 = .ok (.ishr, 1) := by decide +kernel
theorem d_Mi_addColumn_34 : decode b_Mi_addColumn 34 = .ok (.invokestatic 68, 3) := by decide +kernel
theorem d_Mi_addColumn_37 : decode b_Mi_addColumn 37 = .ok (.iconst 1, 1) := by decide +kernel
theorem d_Mi_addColumn_38 : decode b_Mi_addColumn 38 = .ok (.iand, 1) := by decide +kernel
theorem d_Mi_addColumn_39 : decode b_Mi_addColumn 39 = .ok (.iconst 1, 1) := by decide +kernel
theorem d_Mi_addColumn_40 : decode b_Mi_addColumn 40 = .ok (.if_icmp .ne 7, 3) := by decide +kernel
theorem d_Mi_addColumn_47 : decode b_Mi_addColumn 47 = .ok (.iconst 1, 1) := by decide +kernel
theorem d_Mi_addColumn_43 : decode b_Mi_addColumn 43 = .ok (.iconst (-1), 1) := by decide +kernel
theorem d_Mi_addColumn_44 : decode b_Mi_addColumn 44 = .ok (.goto 4, 3) := by decide +kernel
theorem d_Po_isFirstOf_2 : decode b_Po_isFirstOf 2 = .ok (.iload_n 3, 1) := by decide +kernel
theorem d_Po_isFirstOf_3 : decode b_Po_isFirstOf 3 = .ok (.iload_n 1, 1) := by decide +kernel
theorem d_Po_isFirstOf_4 : decode b_Po_isFirstOf 4 = .ok (.if_icmp .ge 24, 3) := by decide +kernel
theorem d_Po_isFirstOf_28 : decode b_Po_isFirstOf 28 = .ok (.iconst 1, 1) := by decide +kernel
theorem d_Po_isFirstOf_29 : decode b_Po_isFirstOf 29 = .ok (.ireturn, 1) := by decide +kernel
theorem d_Po_isFirstOf_7 : decode b_Po_isFirstOf 7 = .ok (.aload_n 0, 1) := by decide +kernel
theorem d_Po_isFirstOf_8 : decode b_Po_isFirstOf 8 = .ok (.iconst 2, 1) := by decide +kernel
theorem d_Po_isFirstOf_9 : decode b_Po_isFirstOf 9 = .ok (.iload_n 3, 1) := by decide +kernel
theorem d_Po_isFirstOf_10 : decode b_Po_isFirstOf 10 = .ok (.imul, 1) := by decide +kernel
theorem d_Po_isFirstOf_11 : decode b_Po_isFirstOf 11 = .ok (.iconst 1, 1) := by decide +kernel
theorem d_Po_isFirstOf_12 : decode b_Po_isFirstOf 12 = .ok (.iadd, 1) := by decide +kernel
theorem d_Po_isFirstOf_13 : decode b_Po_isFirstOf 13 = .ok (.invokevirtual 44, 3) := by decide +kernel
theorem d_Po_isFirstOf_16 : decode b_Po_isFirstOf 16 = .ok (.iload_n 2, 1) := by decide +kernel
theorem d_Po_isFirstOf_17 : decode b_Po_isFirstOf 17 = .ok (.if_icmp .ne 5, 3) := by decide +kernel
theorem d_Po_isFirstOf_22 : decode b_Po_isFirstOf 22 = .ok (.iinc 3 1, 3) := by decide +kernel
theorem d_Po_isFirstOf_25 : decode b_Po_isFirstOf 25 = .ok (.goto (-23), 3) := by decide +kernel
theorem d_Po_isFirstOf_20 : decode b_Po_isFirstOf 20 = .ok (.iconst 0, 1) := by decide +kernel
theorem d_Po_isFirstOf_21 : decode b_Po_isFirstOf 21 = .ok (.ireturn, 1) := by decide +kernel
theorem d_Po_isFirstOf_0 : decode b_Po_isFirstOf 0 = .ok (.iconst 0, 1) := by decide +kernel
theorem d_Po_isFirstOf_1 : decode b_Po_isFirstOf 1 = .ok (.istore_n 3, 1) := by decide +kernel
theorem d_Po_isSumAt_62 : decode b_Po_isSumAt 62 = .ok (.iinc 9 1, 3) := by decide +kernel
theorem d_Po_isSumAt_65 : decode b_Po_isSumAt 65 = .ok (.goto (-56), 3) := by decide +kernel
theorem d_Po_isSumAt_9 : decode b_Po_isSumAt 9 = .ok (.iload 9, 2) := by decide +kernel
theorem d_Po_isSumAt_11 : decode b_Po_isSumAt 11 = .ok (.iload_n 3, 1) := by decide +kernel
theorem d_Po_isSumAt_12 : decode b_Po_isSumAt 12 = .ok (.if_icmp .ge 56, 3) := by decide +kernel
theorem d_Po_isSumAt_68 : decode b_Po_isSumAt 68 = .ok (.aload_n 0, 1) := by decide +kernel
theorem d_Po_isSumAt_69 : decode b_Po_isSumAt 69 = .ok (.iload 4, 2) := by decide +kernel
theorem d_Po_isSumAt_71 : decode b_Po_isSumAt 71 = .ok (.invokevirtual 55, 3) := by decide +kernel
theorem d_Po_isSumAt_74 : decode b_Po_isSumAt 74 = .ok (.lload 7, 2) := by decide +kernel
theorem d_Po_isSumAt_76 : decode b_Po_isSumAt 76 = .ok (.lsub, 1) := by decide +kernel
theorem d_Po_isSumAt_77 : decode b_Po_isSumAt 77 = .ok (.lstore 9, 2) := by decide +kernel
theorem d_Po_isSumAt_79 : decode b_Po_isSumAt 79 = .ok (.lload 9, 2) := by decide +kernel
theorem d_Po_isSumAt_81 : decode b_Po_isSumAt 81 = .ok (.ldc2_w 65, 3) := by decide +kernel
theorem d_Po_isSumAt_84 : decode b_Po_isSumAt 84 = .ok (.lrem, 1) := by decide +kernel
theorem d_Po_isSumAt_85 : decode b_Po_isSumAt 85 = .ok (.lconst 0, 1) := by decide +kernel
theorem d_Po_isSumAt_86 : decode b_Po_isSumAt 86 = .ok (.lcmp, 1) := by decide +kernel
theorem d_Po_isSumAt_87 : decode b_Po_isSumAt 87 = .ok (.ifCond .ne 19, 3) := by decide +kernel
theorem d_Po_isSumAt_106 : decode b_Po_isSumAt 106 = .ok (.iconst 0, 1) := by decide +kernel
theorem d_Po_isSumAt_107 : decode b_Po_isSumAt 107 = .ok (.ireturn, 1) := by decide +kernel
theorem d_Po_isSumAt_90 : decode b_Po_isSumAt 90 = .ok (.lload 9, 2) := by decide +kernel
theorem d_Po_isSumAt_92 : decode b_Po_isSumAt 92 = .ok (.ldc2_w 65, 3) := by decide +kernel
theorem d_Po_isSumAt_95 : decode b_Po_isSumAt 95 = .ok (.ldiv, 1) := by decide +kernel
theorem d_Po_isSumAt_96 : decode b_Po_isSumAt 96 = .ok (.lload 5, 2) := by decide +kernel
theorem d_Po_isSumAt_98 : decode b_Po_isSumAt 98 = .ok (.lcmp, 1) := by decide +kernel
theorem d_Po_isSumAt_99 : decode b_Po_isSumAt 99 = .ok (.ifCond .ne 7, 3) := by decide +kernel
theorem d_Po_isSumAt_102 : decode b_Po_isSumAt 102 = .ok (.iconst 1, 1) := by decide +kernel
theorem d_Po_isSumAt_103 : decode b_Po_isSumAt 103 = .ok (.goto 4, 3) := by decide +kernel
theorem d_Po_isSumAt_15 : decode b_Po_isSumAt 15 = .ok (.aload_n 1, 1) := by decide +kernel
theorem d_Po_isSumAt_16 : decode b_Po_isSumAt 16 = .ok (.iconst 2, 1) := by decide +kernel
theorem d_Po_isSumAt_17 : decode b_Po_isSumAt 17 = .ok (.iload 9, 2) := by decide +kernel
theorem d_Po_isSumAt_19 : decode b_Po_isSumAt 19 = .ok (.imul, 1) := by decide +kernel
theorem d_Po_isSumAt_20 : decode b_Po_isSumAt 20 = .ok (.iconst 1, 1) := by decide +kernel
theorem d_Po_isSumAt_21 : decode b_Po_isSumAt 21 = .ok (.iadd, 1) := by decide +kernel
theorem d_Po_isSumAt_22 : decode b_Po_isSumAt 22 = .ok (.invokevirtual 44, 3) := by decide +kernel
theorem d_Po_isSumAt_25 : decode b_Po_isSumAt 25 = .ok (.iload 4, 2) := by decide +kernel
theorem d_Po_isSumAt_27 : decode b_Po_isSumAt 27 = .ok (.if_icmp .ne 35, 3) := by decide +kernel
theorem d_Po_isSumAt_30 : decode b_Po_isSumAt 30 = .ok (.aload_n 1, 1) := by decide +kernel
