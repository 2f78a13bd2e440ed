theorem d_Sh_edgesHaveDirections_83 : decode b_Sh_edgesHaveDirections 83 = .ok (.iload_n 3, 1) := by decide +kernel
theorem d_Sh_edgesHaveDirections_84 : decode b_Sh_edgesHaveDirections 84 = .ok (.goto 5, 3) := by decide +kernel
theorem d_Sh_edgesHaveDirections_87 : decode b_Sh_edgesHaveDirections 87 = .ok (.iload 4, 2) := by decide +kernel
theorem d_Sh_edgesHaveDirections_89 : decode b_Sh_edgesHaveDirections 89 = .ok (.iastore, 1) := by decide +kernel
theorem d_Sh_edgesHaveDirections_90 : decode b_Sh_edgesHaveDirections 90 = .ok (.aload_n 0, 1) := by decide +kernel
theorem d_Sh_edgesHaveDirections_91 : decode b_Sh_edgesHaveDirections 91 = .ok (.getfield 21, 3) := by decide +kernel
theorem d_Sh_edgesHaveDirections_94 : decode b_Sh_edgesHaveDirections 94 = .ok (.iload_n 2, 1) := by decide +kernel
theorem d_Sh_edgesHaveDirections_95 : decode b_Sh_edgesHaveDirections 95 = .ok (.aload_n 1, 1) := by decide +kernel
theorem d_Sh_edgesHaveDirections_96 : decode b_Sh_edgesHaveDirections 96 = .ok (.iload_n 3, 1) := by decide +kernel
theorem d_Sh_edgesHaveDirections_97 : decode b_Sh_edgesHaveDirections 97 = .ok (.invokevirtual 86, 3) := by decide +kernel
theorem d_Sh_edgesHaveDirections_100 : decode b_Sh_edgesHaveDirections 100 = .ok (.ifCond .eq 8, 3) := by decide +kernel
theorem d_Sh_edgesHaveDirections_103 : decode b_Sh_edgesHaveDirections 103 = .ok (.iload 4, 2) := by decide +kernel
theorem d_Sh_edgesHaveDirections_105 : decode b_Sh_edgesHaveDirections 105 = .ok (.goto 4, 3) := by decide +kernel
theorem d_Sh_edgesHaveDirections_108 : decode b_Sh_edgesHaveDirections 108 = .ok (.iload_n 3, 1) := by decide +kernel
theorem d_Sh_edgesHaveDirections_109 : decode b_Sh_edgesHaveDirections 109 = .ok (.iastore, 1) := by decide +kernel
theorem d_Sh_edgesHaveDirections_110 : decode b_Sh_edgesHaveDirections 110 = .ok (.aload_n 0, 1) := by decide +kernel
theorem d_Sh_edgesHaveDirections_111 : decode b_Sh_edgesHaveDirections 111 = .ok (.getfield 24, 3) := by decide +kernel
theorem d_Sh_edgesHaveDirections_114 : decode b_Sh_edgesHaveDirections 114 = .ok (.iload_n 3, 1) := by decide +kernel
theorem d_Sh_edgesHaveDirections_115 : decode b_Sh_edgesHaveDirections 115 = .ok (.iload_n 2, 1) := by decide +kernel
theorem d_Sh_edgesHaveDirections_116 : decode b_Sh_edgesHaveDirections 116 = .ok (.iastore, 1) := by decide +kernel
theorem d_Sh_edgesHaveDirections_117 : decode b_Sh_edgesHaveDirections 117 = .ok (.aload_n 0, 1) := by decide +kernel
theorem d_Sh_edgesHaveDirections_118 : decode b_Sh_edgesHaveDirections 118 = .ok (.getfield 24, 3) := by decide +kernel
theorem d_Sh_edgesHaveDirections_121 : decode b_Sh_edgesHaveDirections 121 = .ok (.iload 4, 2) := by decide +kernel
theorem d_Sh_edgesHaveDirections_123 : decode b_Sh_edgesHaveDirections 123 = .ok (.iload_n 2, 1) := by decide +kernel
theorem d_Sh_edgesHaveDirections_124 : decode b_Sh_edgesHaveDirections 124 = .ok (.iastore, 1) := by decide +kernel
theorem d_Sh_edgesHaveDirections_125 : decode b_Sh_edgesHaveDirections 125 = .ok (.iinc 2 1, 3) := by decide +kernel
theorem d_Sh_edgesHaveDirections_128 : decode b_Sh_edgesHaveDirections 128 = .ok (.goto (-126), 3) := by decide +kernel
theorem d_Sh_edgesHaveDirections_131 : decode b_Sh_edgesHaveDirections 131 = .ok (.aload_n 0, 1) := by decide +kernel
theorem d_Sh_edgesHaveDirections_132 : decode b_Sh_edgesHaveDirections 132 = .ok (.iconst 2, 1) := by decide +kernel
theorem d_Sh_edgesHaveDirections_133 : decode b_Sh_edgesHaveDirections 133 = .ok (.aload_n 1, 1) := by decide +kernel
theorem d_Sh_edgesHaveDirections_134 : decode b_Sh_edgesHaveDirections 134 = .ok (.getfield 67, 3) := by decide +kernel
theorem d_Sh_edgesHaveDirections_137 : decode b_Sh_edgesHaveDirections 137 = .ok (.imul, 1) := by decide +kernel
theorem d_Sh_edgesHaveDirections_138 : decode b_Sh_edgesHaveDirections 138 = .ok (.putfield 48, 3) := by decide +kernel
theorem d_Sh_edgesHaveDirections_141 : decode b_Sh_edgesHaveDirections 141 = .ok (.iconst 1, 1) := by decide +kernel
theorem d_Sh_edgesHaveDirections_142 : decode b_Sh_edgesHaveDirections 142 = .ok (.ireturn, 1) := by decide +kernel
theorem d_Sh_fillArc_0 : decode b_Sh_fillArc 0 = .ok (.iload_n 1, 1) := by decide +kernel
theorem d_Sh_fillArc_1 : decode b_Sh_fillArc 1 = .ok (.istore_n 3, 1) := by decide +kernel
theorem d_Sh_fillArc_2 : decode b_Sh_fillArc 2 = .ok (.aload_n 0, 1) := by decide +kernel
theorem d_Sh_fillArc_3 : decode b_Sh_fillArc 3 = .ok (.getfield 30, 3) := by decide +kernel
theorem d_Sh_fillArc_6 : decode b_Sh_fillArc 6 = .ok (.iload_n 3, 1) := by decide +kernel
theorem d_Sh_fillArc_7 : decode b_Sh_fillArc 7 = .ok (.iload_n 2, 1) := by decide +kernel
theorem d_Sh_fillArc_8 : decode b_Sh_fillArc 8 = .ok (.iastore, 1) := by decide +kernel
theorem d_Sh_fillArc_9 : decode b_Sh_fillArc 9 = .ok (.iconst 0, 1) := by decide +kernel
theorem d_Sh_fillArc_10 : decode b_Sh_fillArc 10 = .ok (.istore 4, 2) := by decide +kernel
theorem d_Sh_fillArc_12 : decode b_Sh_fillArc 12 = .ok (.iload 4, 2) := by decide +kernel
theorem d_Sh_fillArc_14 : decode b_Sh_fillArc 14 = .ok (.aload_n 0, 1) := by decide +kernel
theorem d_Sh_fillArc_15 : decode b_Sh_fillArc 15 = .ok (.getfield 48, 3) := by decide +kernel
theorem d_Sh_fillArc_18 : decode b_Sh_fillArc 18 = .ok (.if_icmp .ge 34, 3) := by decide +kernel
theorem d_Sh_fillArc_21 : decode b_Sh_fillArc 21 = .ok (.aload_n 0, 1) := by decide +kernel
theorem d_Sh_fillArc_22 : decode b_Sh_fillArc 22 = .ok (.getfield 21, 3) := by decide +kernel
theorem d_Sh_fillArc_25 : decode b_Sh_fillArc 25 = .ok (.iload_n 3, 1) := by decide +kernel
theorem d_Sh_fillArc_26 : decode b_Sh_fillArc 26 = .ok (.iaload, 1) := by decide +kernel
theorem d_Sh_fillArc_27 : decode b_Sh_fillArc 27 = .ok (.invokestatic 114, 3) := by decide +kernel
theorem d_Sh_fillArc_30 : decode b_Sh_fillArc 30 = .ok (.ifCond .eq 22, 3) := by decide +kernel
theorem d_Sh_fillArc_33 : decode b_Sh_fillArc 33 = .ok (.aload_n 0, 1) := by decide +kernel
theorem d_Sh_fillArc_34 : decode b_Sh_fillArc 34 = .ok (.iload_n 3, 1) := by decide +kernel
theorem d_Sh_fillArc_35 : decode b_Sh_fillArc 35 = .ok (.invokevirtual 105, 3) := by decide +kernel
theorem d_Sh_fillArc_38 : decode b_Sh_fillArc 38 = .ok (.istore_n 3, 1) := by decide +kernel
theorem d_Sh_fillArc_39 : decode b_Sh_fillArc 39 = .ok (.aload_n 0, 1) := by decide +kernel
theorem d_Sh_fillArc_40 : decode b_Sh_fillArc 40 = .ok (.getfield 30, 3) := by decide +kernel
theorem d_Sh_fillArc_43 : decode b_Sh_fillArc 43 = .ok (.iload_n 3, 1) := by decide +kernel
theorem d_Sh_fillArc_44 : decode b_Sh_fillArc 44 = .ok (.iload_n 2, 1) := by decide +kernel
theorem d_Sh_fillArc_45 : decode b_Sh_fillArc 45 = .ok (.iastore, 1) := by decide +kernel
theorem d_Sh_fillArc_46 : decode b_Sh_fillArc 46 = .ok (.iinc 4 1, 3) := by decide +kernel
theorem d_Sh_fillArc_49 : decode b_Sh_fillArc 49 = .ok (.goto (-37), 3) := by decide +kernel
theorem d_Sh_fillArc_52 : decode b_Sh_fillArc 52 = .ok (.return_, 1) := by decide +kernel
theorem d_Sh_findArcs_0 : decode b_Sh_findArcs 0 = .ok (.iconst 0, 1) := by decide +kernel
theorem d_Sh_findArcs_1 : decode b_Sh_findArcs 1 = .ok (.istore_n 1, 1) := by decide +kernel
theorem d_Sh_findArcs_2 : decode b_Sh_findArcs 2 = .ok (.aload_n 0, 1) := by decide +kernel
theorem d_Sh_findArcs_3 : decode b_Sh_findArcs 3 = .ok (.getfield 30, 3) := by decide +kernel
theorem d_Sh_findArcs_6 : decode b_Sh_findArcs 6 = .ok (.iconst (-1), 1) := by decide +kernel
theorem d_Sh_findArcs_7 : decode b_Sh_findArcs 7 = .ok (.invokestatic 96, 3) := by decide +kernel
theorem d_Sh_findArcs_10 : decode b_Sh_findArcs 10 = .ok (.iconst 0, 1) := by decide +kernel
theorem d_Sh_findArcs_11 : decode b_Sh_findArcs 11 = .ok (.istore_n 2, 1) := by decide +kernel
theorem d_Sh_findArcs_12 : decode b_Sh_findArcs 12 = .ok (.iload_n 2, 1) := by decide +kernel
theorem d_Sh_findArcs_13 : decode b_Sh_findArcs 13 = .ok (.aload_n 0, 1) := by decide +kernel
theorem d_Sh_findArcs_14 : decode b_Sh_findArcs 14 = .ok (.getfield 48, 3) := by decide +kernel
theorem d_Sh_findArcs_17 : decode b_Sh_findArcs 17 = .ok (.if_icmp .ge 30, 3) := by decide +kernel
theorem d_Sh_findArcs_20 : decode b_Sh_findArcs 20 = .ok (.aload_n 0, 1) := by decide +kernel
theorem d_Sh_findArcs_21 : decode b_Sh_findArcs 21 = .ok (.getfield 18, 3) := by decide +kernel
theorem d_Sh_findArcs_24 : decode b_Sh_findArcs 24 = .ok (.iload_n 2, 1) := by decide +kernel
theorem d_Sh_findArcs_25 : decode b_Sh_findArcs 25 = .ok (.iaload, 1) := by decide +kernel
theorem d_Sh_findArcs_26 : decode b_Sh_findArcs 26 = .ok (.invokestatic 114, 3) := by decide +kernel
theorem d_Sh_findArcs_29 : decode b_Sh_findArcs 29 = .ok (.ifCond .ne 12, 3) := by decide +kernel
theorem d_Sh_findArcs_32 : decode b_Sh_findArcs 32 = .ok (.aload_n 0, 1) := by decide +kernel
theorem d_Sh_findArcs_33 : decode b_Sh_findArcs 33 = .ok (.iload_n 2, 1) := by decide +kernel
theorem d_Sh_findArcs_34 : decode b_Sh_findArcs 34 = .ok (.iload_n 1, 1) := by decide +kernel
theorem d_Sh_findArcs_35 : decode b_Sh_findArcs 35 = .ok (.invokevirtual 122, 3) := by decide +kernel
theorem d_Sh_findArcs_38 : decode b_Sh_findArcs 38 = .ok (.iinc 1 1, 3) := by decide +kernel
theorem d_Sh_findArcs_41 : decode b_Sh_findArcs 41 = .ok (.iinc 2 1, 3) := by decide +kernel
theorem d_Sh_findArcs_44 : decode b_Sh_findArcs 44 = .ok (.goto (-32), 3) := by decide +kernel
theorem d_Sh_findArcs_47 : decode b_Sh_findArcs 47 = .ok (.iconst 0, 1) := by decide +kernel
theorem d_Sh_findArcs_48 : decode b_Sh_findArcs 48 = .ok (.istore_n 2, 1) := by decide +kernel
theorem d_Sh_findArcs_49 : decode b_Sh_findArcs 49 = .ok (.iload_n 2, 1) := by decide +kernel
theorem d_Sh_findArcs_50 : decode b_Sh_findArcs 50 = .ok (.aload_n 0, 1) := by decide +kernel
theorem d_Sh_findArcs_51 : decode b_Sh_findArcs 51 = .ok (.getfield 48, 3) := by decide +kernel
theorem d_Sh_findArcs_54 : decode b_Sh_findArcs 54 = .ok (.if_icmp .ge 27, 3) := by decide +kernel
theorem d_Sh_findArcs_57 : decode b_Sh_findArcs 57 = .ok (.aload_n 0, 1) := by decide +kernel
theorem d_Sh_findArcs_58 : decode b_Sh_findArcs 58 = .ok (.getfield 30, 3) := by decide +kernel
theorem d_Sh_findArcs_61 : decode b_Sh_findArcs 61 = .ok (.iload_n 2, 1) := by decide +kernel
theorem d_Sh_findArcs_62 : decode b_Sh_findArcs 62 = .ok (.iaload, 1) := by decide +kernel
theorem d_Sh_findArcs_63 : decode b_Sh_findArcs 63 = .ok (.ifCond .ge 12, 3) := by decide +kernel
theorem d_Sh_findArcs_66 : decode b_Sh_findArcs 66 = .ok (.aload_n 0, 1) := by decide +kernel
theorem d_Sh_findArcs_67 : decode b_Sh_findArcs 67 = .ok (.iload_n 2, 1) := by decide +kernel
theorem d_Sh_findArcs_68 : decode b_Sh_findArcs 68 = .ok (.iload_n 1, 1) := by decide +kernel
theorem d_Sh_findArcs_69 : decode b_Sh_findArcs 69 = .ok (.invokevirtual 122, 3) := by decide +kernel
theorem d_Sh_findArcs_72 : decode b_Sh_findArcs 72 = .ok (.iinc 1 1, 3) := by decide +kernel
theorem d_Sh_findArcs_75 : decode b_Sh_findArcs 75 = .ok (.iinc 2 1, 3) := by decide +kernel
theorem d_Sh_findArcs_78 : decode b_Sh_findArcs 78 = .ok (.goto (-29), 3) := by decide +kernel
theorem d_Sh_findArcs_81 : decode b_Sh_findArcs 81 = .ok (.iload_n 1, 1) := by decide +kernel
theorem d_Sh_findArcs_82 : decode b_Sh_findArcs 82 = .ok (.ireturn, 1) := by decide +kernel
theorem d_Sh_findComponents_0 : decode b_Sh_findComponents 0 = .ok (.aload_n 0, 1) := by decide +kernel
theorem d_Sh_findComponents_1 : decode b_Sh_findComponents 1 = .ok (.getfield 27, 3) := by decide +kernel
theorem d_Sh_findComponents_4 : decode b_Sh_findComponents 4 = .ok (.iconst (-1), 1) := by decide +kernel
theorem d_Sh_findComponents_5 : decode b_Sh_findComponents 5 = .ok (.invokestatic 96, 3) := by decide +kernel
theorem d_Sh_findComponents_8 : decode b_Sh_findComponents 8 = .ok (.iconst 0, 1) := by decide +kernel
theorem d_Sh_findComponents_9 : decode b_Sh_findComponents 9 = .ok (.istore_n 1, 1) := by decide +kernel
theorem d_Sh_findComponents_10 : decode b_Sh_findComponents 10 = .ok (.iload_n 1, 1) := by decide +kernel
theorem d_Sh_findComponents_11 : decode b_Sh_findComponents 11 = .ok (.aload_n 0, 1) := by decide +kernel
theorem d_Sh_findComponents_12 : decode b_Sh_findComponents 12 = .ok (.getfield 48, 3) := by decide +kernel
theorem d_Sh_findComponents_15 : decode b_Sh_findComponents 15 = .ok (.if_icmp .ge 71, 3) := by decide +kernel
theorem d_Sh_findComponents_18 : decode b_Sh_findComponents 18 = .ok (.aload_n 0, 1) := by decide +kernel
theorem d_Sh_findComponents_19 : decode b_Sh_findComponents 19 = .ok (.getfield 27, 3) := by decide +kernel
theorem d_Sh_findComponents_22 : decode b_Sh_findComponents 22 = .ok (.iload_n 1, 1) := by decide +kernel
theorem d_Sh_findComponents_23 : decode b_Sh_findComponents 23 = .ok (.iaload, 1) := by decide +kernel
theorem d_Sh_findComponents_24 : decode b_Sh_findComponents 24 = .ok (.ifCond .ge 56, 3) := by decide +kernel
theorem d_Sh_findComponents_27 : decode b_Sh_findComponents 27 = .ok (.iload_n 1, 1) := by decide +kernel
theorem d_Sh_findComponents_28 : decode b_Sh_findComponents 28 = .ok (.istore_n 2, 1) := by decide +kernel
theorem d_Sh_findComponents_29 : decode b_Sh_findComponents 29 = .ok (.iconst 0, 1) := by decide +kernel
theorem d_Sh_findComponents_30 : decode b_Sh_findComponents 30 = .ok (.istore_n 3, 1) := by decide +kernel
theorem d_Sh_findComponents_31 : decode b_Sh_findComponents 31 = .ok (.iload_n 3, 1) := by decide +kernel
theorem d_Sh_findComponents_32 : decode b_Sh_findComponents 32 = .ok (.aload_n 0, 1) := by decide +kernel
theorem d_Sh_findComponents_33 : decode b_Sh_findComponents 33 = .ok (.getfield 48, 3) := by decide +kernel
theorem d_Sh_findComponents_36 : decode b_Sh_findComponents 36 = .ok (.if_icmp .ge 34, 3) := by decide +kernel
theorem d_Sh_findComponents_39 : decode b_Sh_findComponents 39 = .ok (.aload_n 0, 1) := by decide +kernel
theorem d_Sh_findComponents_40 : decode b_Sh_findComponents 40 = .ok (.getfield 27, 3) := by decide +kernel
theorem d_Sh_findComponents_43 : decode b_Sh_findComponents 43 = .ok (.iload_n 2, 1) := by decide +kernel
theorem d_Sh_findComponents_44 : decode b_Sh_findComponents 44 = .ok (.iaload, 1) := by decide +kernel
theorem d_Sh_findComponents_45 : decode b_Sh_findComponents 45 = .ok (.ifCond .ge 25, 3) := by decide +kernel
theorem d_Sh_findComponents_48 : decode b_Sh_findComponents 48 = .ok (.aload_n 0, 1) := by decide +kernel
theorem d_Sh_findComponents_49 : decode b_Sh_findComponents 49 = .ok (.getfield 27, 3) := by decide +kernel
theorem d_Sh_findComponents_52 : decode b_Sh_findComponents 52 = .ok (.iload_n 2, 1) := by decide +kernel
theorem d_Sh_findComponents_53 : decode b_Sh_findComponents 53 = .ok (.aload_n 0, 1) := by decide +kernel
theorem d_Sh_findComponents_54 : decode b_Sh_findComponents 54 = .ok (.getfield 52, 3) := by decide +kernel
theorem d_Sh_findComponents_57 : decode b_Sh_findComponents 57 = .ok (.iastore, 1) := by decide +kernel
theorem d_Sh_findComponents_58 : decode b_Sh_findComponents 58 = .ok (.aload_n 0, 1) := by decide +kernel
theorem d_Sh_findComponents_59 : decode b_Sh_findComponents 59 = .ok (.iload_n 2, 1) := by decide +kernel
theorem d_Sh_findComponents_60 : decode b_Sh_findComponents 60 = .ok (.invokevirtual 105, 3) := by decide +kernel
theorem d_Sh_findComponents_63 : decode b_Sh_findComponents 63 = .ok (.istore_n 2, 1) := by decide +kernel
theorem d_Sh_findComponents_64 : decode b_Sh_findComponents 64 = .ok (.iinc 3 1, 3) := by decide +kernel
theorem d_Sh_findComponents_67 : decode b_Sh_findComponents 67 = .ok (.goto (-36), 3) := by decide +kernel
theorem d_Sh_findComponents_70 : decode b_Sh_findComponents 70 = .ok (.aload_n 0, 1) := by decide +kernel
theorem d_Sh_findComponents_71 : decode b_Sh_findComponents 71 = .ok (.dup, 1) := by decide +kernel
theorem d_Sh_findComponents_72 : decode b_Sh_findComponents 72 = .ok (.getfield 52, 3) := by decide +kernel
theorem d_Sh_findComponents_75 : decode b_Sh_findComponents 75 = .ok (.iconst 1, 1) := by decide +kernel
theorem d_Sh_findComponents_76 : decode b_Sh_findComponents 76 = .ok (.iadd, 1) := by decide +kernel
theorem d_Sh_findComponents_77 : decode b_Sh_findComponents 77 = .ok (.putfield 52, 3) := by decide +kernel
theorem d_Sh_findComponents_80 : decode b_Sh_findComponents 80 = .ok (.iinc 1 1, 3) := by decide +kernel
theorem d_Sh_findComponents_83 : decode b_Sh_findComponents 83 = .ok (.goto (-73), 3) := by decide +kernel
theorem d_Sh_findComponents_86 : decode b_Sh_findComponents 86 = .ok (.return_, 1) := by decide +kernel
theorem d_Sh_findFaces_0 : decode b_Sh_findFaces 0 = .ok (.aload_n 0, 1) := by decide +kernel
theorem d_Sh_findFaces_1 : decode b_Sh_findFaces 1 = .ok (.getfield 36, 3) := by decide +kernel
theorem d_Sh_findFaces_4 : decode b_Sh_findFaces 4 = .ok (.iconst (-1), 1) := by decide +kernel
theorem d_Sh_findFaces_5 : decode b_Sh_findFaces 5 = .ok (.invokestatic 96, 3) := by decide +kernel
theorem d_Sh_findFaces_8 : decode b_Sh_findFaces 8 = .ok (.iconst 0, 1) := by decide +kernel
theorem d_Sh_findFaces_9 : decode b_Sh_findFaces 9 = .ok (.istore_n 1, 1) := by decide +kernel
theorem d_Sh_findFaces_10 : decode b_Sh_findFaces 10 = .ok (.iload_n 1, 1) := by decide +kernel
theorem d_Sh_findFaces_11 : decode b_Sh_findFaces 11 = .ok (.iconst 2, 1) := by decide +kernel
theorem d_Sh_findFaces_12 : decode b_Sh_findFaces 12 = .ok (.aload_n 0, 1) := by decide +kernel
theorem d_Sh_findFaces_13 : decode b_Sh_findFaces 13 = .ok (.getfield 48, 3) := by decide +kernel
theorem d_Sh_findFaces_16 : decode b_Sh_findFaces 16 = .ok (.imul, 1) := by decide +kernel
theorem d_Sh_findFaces_17 : decode b_Sh_findFaces 17 = .ok (.if_icmp .ge 89, 3) := by decide +kernel
theorem d_Sh_findFaces_20 : decode b_Sh_findFaces 20 = .ok (.aload_n 0, 1) := by decide +kernel
theorem d_Sh_findFaces_21 : decode b_Sh_findFaces 21 = .ok (.getfield 36, 3) := by decide +kernel
theorem d_Sh_findFaces_24 : decode b_Sh_findFaces 24 = .ok (.iload_n 1, 1) := by decide +kernel
theorem d_Sh_findFaces_25 : decode b_Sh_findFaces 25 = .ok (.iaload, 1) := by decide +kernel
theorem d_Sh_findFaces_26 : decode b_Sh_findFaces 26 = .ok (.ifCond .ge 74, 3) := by decide +kernel
theorem d_Sh_findFaces_29 : decode b_Sh_findFaces 29 = .ok (.iload_n 1, 1) := by decide +kernel
theorem d_Sh_findFaces_30 : decode b_Sh_findFaces 30 = .ok (.istore_n 2, 1) := by decide +kernel
theorem d_Sh_findFaces_31 : decode b_Sh_findFaces 31 = .ok (.iconst 0, 1) := by decide +kernel
theorem d_Sh_findFaces_32 : decode b_Sh_findFaces 32 = .ok (.istore_n 3, 1) := by decide +kernel
theorem d_Sh_findFaces_33 : decode b_Sh_findFaces 33 = .ok (.iload_n 3, 1) := by decide +kernel
theorem d_Sh_findFaces_34 : decode b_Sh_findFaces 34 = .ok (.bipush 80, 2) := by decide +kernel
theorem d_Sh_findFaces_36 : decode b_Sh_findFaces 36 = .ok (.if_icmp .ge 34, 3) := by decide +kernel
theorem d_Sh_findFaces_39 : decode b_Sh_findFaces 39 = .ok (.aload_n 0, 1) := by decide +kernel
theorem d_Sh_findFaces_40 : decode b_Sh_findFaces 40 = .ok (.getfield 36, 3) := by decide +kernel
theorem d_Sh_findFaces_43 : decode b_Sh_findFaces 43 = .ok (.iload_n 2, 1) := by decide +kernel
theorem d_Sh_findFaces_44 : decode b_Sh_findFaces 44 = .ok (.iaload, 1) := by decide +kernel
theorem d_Sh_findFaces_45 : decode b_Sh_findFaces 45 = .ok (.ifCond .ge 25, 3) := by decide +kernel
theorem d_Sh_findFaces_48 : decode b_Sh_findFaces 48 = .ok (.aload_n 0, 1) := by decide +kernel
theorem d_Sh_findFaces_49 : decode b_Sh_findFaces 49 = .ok (.getfield 36, 3) := by decide +kernel
theorem d_Sh_findFaces_52 : decode b_Sh_findFaces 52 = .ok (.iload_n 2, 1) := by decide +kernel
theorem d_Sh_findFaces_53 : decode b_Sh_findFaces 53 = .ok (.aload_n 0, 1) := by decide +kernel
theorem d_Sh_findFaces_54 : decode b_Sh_findFaces 54 = .ok (.getfield 58, 3) := by decide +kernel
theorem d_Sh_findFaces_57 : decode b_Sh_findFaces 57 = .ok (.iastore, 1) := by decide +kernel
theorem d_Sh_findFaces_58 : decode b_Sh_findFaces 58 = .ok (.iinc 3 1, 3) := by decide +kernel
theorem d_Sh_findFaces_61 : decode b_Sh_findFaces 61 = .ok (.aload_n 0, 1) := by decide +kernel
theorem d_Sh_findFaces_62 : decode b_Sh_findFaces 62 = .ok (.iload_n 2, 1) := by decide +kernel
theorem d_Sh_findFaces_63 : decode b_Sh_findFaces 63 = .ok (.invokevirtual 102, 3) := by decide +kernel
theorem d_Sh_findFaces_66 : decode b_Sh_findFaces 66 = .ok (.istore_n 2, 1) := by decide +kernel
