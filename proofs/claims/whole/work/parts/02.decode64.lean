theorem d_Md_turned_46 : decode b_Md_turned 46 = .ok (.goto 4, 3) := by decide +kernel
theorem d_Md_turned_49 : decode b_Md_turned 49 = .ok (.iload_n 1, 1) := by decide +kernel
theorem d_Md_turned_50 : decode b_Md_turned 50 = .ok (.istore_n 1, 1) := by decide +kernel
theorem d_Md_turned_51 : decode b_Md_turned 51 = .ok (.iinc 2 1, 3) := by decide +kernel
theorem d_Md_turned_54 : decode b_Md_turned 54 = .ok (.goto (-50), 3) := by decide +kernel
theorem d_Md_turned_57 : decode b_Md_turned 57 = .ok (.iload_n 1, 1) := by decide +kernel
theorem d_Md_turned_58 : decode b_Md_turned 58 = .ok (.ireturn, 1) := by decide +kernel
theorem d_Md_twist_0 : decode b_Md_twist 0 = .ok (.iload_n 1, 1) := by decide +kernel
theorem d_Md_twist_1 : decode b_Md_twist 1 = .ok (.ifCond .ne 7, 3) := by decide +kernel
theorem d_Md_twist_4 : decode b_Md_twist 4 = .ok (.iconst (-1), 1) := by decide +kernel
theorem d_Md_twist_5 : decode b_Md_twist 5 = .ok (.goto 8, 3) := by decide +kernel
theorem d_Md_twist_8 : decode b_Md_twist 8 = .ok (.aload_n 0, 1) := by decide +kernel
theorem d_Md_twist_9 : decode b_Md_twist 9 = .ok (.iload_n 1, 1) := by decide +kernel
theorem d_Md_twist_10 : decode b_Md_twist 10 = .ok (.invokevirtual 321, 3) := by decide +kernel
theorem d_Md_twist_13 : decode b_Md_twist 13 = .ok (.istore 4, 2) := by decide +kernel
theorem d_Md_twist_15 : decode b_Md_twist 15 = .ok (.aload_n 0, 1) := by decide +kernel
theorem d_Md_twist_16 : decode b_Md_twist 16 = .ok (.getfield 37, 3) := by decide +kernel
theorem d_Md_twist_19 : decode b_Md_twist 19 = .ok (.getfield 312, 3) := by decide +kernel
theorem d_Md_twist_22 : decode b_Md_twist 22 = .ok (.bipush 20, 2) := by decide +kernel
theorem d_Md_twist_24 : decode b_Md_twist 24 = .ok (.if_icmp .eq 26, 3) := by decide +kernel
theorem d_Md_twist_27 : decode b_Md_twist 27 = .ok (.iload_n 1, 1) := by decide +kernel
theorem d_Md_twist_28 : decode b_Md_twist 28 = .ok (.ifCond .ne 13, 3) := by decide +kernel
theorem d_Md_twist_31 : decode b_Md_twist 31 = .ok (.aload_n 0, 1) := by decide +kernel
theorem d_Md_twist_32 : decode b_Md_twist 32 = .ok (.getfield 37, 3) := by decide +kernel
theorem d_Md_twist_35 : decode b_Md_twist 35 = .ok (.getfield 354, 3) := by decide +kernel
theorem d_Md_twist_38 : decode b_Md_twist 38 = .ok (.ifCond .eq 12, 3) := by decide +kernel
theorem d_Md_twist_41 : decode b_Md_twist 41 = .ok (.iload_n 1, 1) := by decide +kernel
theorem d_Md_twist_42 : decode b_Md_twist 42 = .ok (.ifCond .eq 10, 3) := by decide +kernel
theorem d_Md_twist_45 : decode b_Md_twist 45 = .ok (.iload 4, 2) := by decide +kernel
theorem d_Md_twist_47 : decode b_Md_twist 47 = .ok (.ifCond .ge 5, 3) := by decide +kernel
theorem d_Md_twist_50 : decode b_Md_twist 50 = .ok (.iconst 0, 1) := by decide +kernel
theorem d_Md_twist_51 : decode b_Md_twist 51 = .ok (.ireturn, 1) := by decide +kernel
theorem d_Md_twist_52 : decode b_Md_twist 52 = .ok (.aload_n 0, 1) := by decide +kernel
theorem d_Md_twist_53 : decode b_Md_twist 53 = .ok (.iconst 0, 1) := by decide +kernel
theorem d_Md_twist_54 : decode b_Md_twist 54 = .ok (.invokevirtual 385, 3) := by decide +kernel
theorem d_Md_twist_57 : decode b_Md_twist 57 = .ok (.istore 5, 2) := by decide +kernel
theorem d_Md_twist_59 : decode b_Md_twist 59 = .ok (.aload_n 0, 1) := by decide +kernel
theorem d_Md_twist_60 : decode b_Md_twist 60 = .ok (.iload 5, 2) := by decide +kernel
theorem d_Md_twist_62 : decode b_Md_twist 62 = .ok (.invokevirtual 385, 3) := by decide +kernel
theorem d_Md_twist_65 : decode b_Md_twist 65 = .ok (.istore 6, 2) := by decide +kernel
theorem d_Md_twist_67 : decode b_Md_twist 67 = .ok (.iload_n 1, 1) := by decide +kernel
theorem d_Md_twist_68 : decode b_Md_twist 68 = .ok (.ifCond .ne 8, 3) := by decide +kernel
theorem d_Md_twist_71 : decode b_Md_twist 71 = .ok (.iload 6, 2) := by decide +kernel
theorem d_Md_twist_73 : decode b_Md_twist 73 = .ok (.goto 4, 3) := by decide +kernel
theorem d_Md_twist_76 : decode b_Md_twist 76 = .ok (.iload_n 1, 1) := by decide +kernel
theorem d_Md_twist_77 : decode b_Md_twist 77 = .ok (.istore 7, 2) := by decide +kernel
theorem d_Md_twist_79 : decode b_Md_twist 79 = .ok (.iload_n 1, 1) := by decide +kernel
theorem d_Md_twist_80 : decode b_Md_twist 80 = .ok (.ifCond .ne 19, 3) := by decide +kernel
theorem d_Md_twist_83 : decode b_Md_twist 83 = .ok (.aload_n 0, 1) := by decide +kernel
theorem d_Md_twist_84 : decode b_Md_twist 84 = .ok (.getfield 37, 3) := by decide +kernel
theorem d_Md_twist_87 : decode b_Md_twist 87 = .ok (.dup, 1) := by decide +kernel
theorem d_Md_twist_88 : decode b_Md_twist 88 = .ok (.getfield 354, 3) := by decide +kernel
theorem d_Md_twist_91 : decode b_Md_twist 91 = .ok (.iconst 1, 1) := by decide +kernel
theorem d_Md_twist_92 : decode b_Md_twist 92 = .ok (.isub, 1) := by decide +kernel
theorem d_Md_twist_93 : decode b_Md_twist 93 = .ok (.putfield 354, 3) := by decide +kernel
theorem d_Md_twist_96 : decode b_Md_twist 96 = .ok (.goto 20, 3) := by decide +kernel
theorem d_Md_twist_99 : decode b_Md_twist 99 = .ok (.aload_n 0, 1) := by decide +kernel
theorem d_Md_twist_100 : decode b_Md_twist 100 = .ok (.getfield 37, 3) := by decide +kernel
theorem d_Md_twist_103 : decode b_Md_twist 103 = .ok (.getfield 318, 3) := by decide +kernel
theorem d_Md_twist_106 : decode b_Md_twist 106 = .ok (.aload_n 0, 1) := by decide +kernel
theorem d_Md_twist_107 : decode b_Md_twist 107 = .ok (.getfield 72, 3) := by decide +kernel
theorem d_Md_twist_110 : decode b_Md_twist 110 = .ok (.iload 4, 2) := by decide +kernel
theorem d_Md_twist_112 : decode b_Md_twist 112 = .ok (.iaload, 1) := by decide +kernel
theorem d_Md_twist_113 : decode b_Md_twist 113 = .ok (.iload 6, 2) := by decide +kernel
theorem d_Md_twist_115 : decode b_Md_twist 115 = .ok (.iastore, 1) := by decide +kernel
theorem d_Md_twist_116 : decode b_Md_twist 116 = .ok (.iload_n 3, 1) := by decide +kernel
theorem d_Md_twist_117 : decode b_Md_twist 117 = .ok (.ifCond .eq 19, 3) := by decide +kernel
theorem d_Md_twist_120 : decode b_Md_twist 120 = .ok (.aload_n 0, 1) := by decide +kernel
theorem d_Md_twist_121 : decode b_Md_twist 121 = .ok (.iload_n 2, 1) := by decide +kernel
theorem d_Md_twist_122 : decode b_Md_twist 122 = .ok (.iload 5, 2) := by decide +kernel
theorem d_Md_twist_124 : decode b_Md_twist 124 = .ok (.iload 6, 2) := by decide +kernel
theorem d_Md_twist_126 : decode b_Md_twist 126 = .ok (.iload 7, 2) := by decide +kernel
theorem d_Md_twist_128 : decode b_Md_twist 128 = .ok (.iload 5, 2) := by decide +kernel
theorem d_Md_twist_130 : decode b_Md_twist 130 = .ok (.invokevirtual 388, 3) := by decide +kernel
theorem d_Md_twist_133 : decode b_Md_twist 133 = .ok (.goto 16, 3) := by decide +kernel
theorem d_Md_twist_136 : decode b_Md_twist 136 = .ok (.aload_n 0, 1) := by decide +kernel
theorem d_Md_twist_137 : decode b_Md_twist 137 = .ok (.iload_n 2, 1) := by decide +kernel
theorem d_Md_twist_138 : decode b_Md_twist 138 = .ok (.iload 7, 2) := by decide +kernel
theorem d_Md_twist_140 : decode b_Md_twist 140 = .ok (.iload 5, 2) := by decide +kernel
theorem d_Md_twist_142 : decode b_Md_twist 142 = .ok (.iload 5, 2) := by decide +kernel
theorem d_Md_twist_144 : decode b_Md_twist 144 = .ok (.iload 6, 2) := by decide +kernel
theorem d_Md_twist_146 : decode b_Md_twist 146 = .ok (.invokevirtual 388, 3) := by decide +kernel
theorem d_Md_twist_149 : decode b_Md_twist 149 = .ok (.iconst 1, 1) := by decide +kernel
theorem d_Md_twist_150 : decode b_Md_twist 150 = .ok (.ireturn, 1) := by decide +kernel
theorem d_Md_undo_0 : decode b_Md_undo 0 = .ok (.aload_n 0, 1) := by decide +kernel
theorem d_Md_undo_1 : decode b_Md_undo 1 = .ok (.getfield 41, 3) := by decide +kernel
theorem d_Md_undo_4 : decode b_Md_undo 4 = .ok (.aload_n 0, 1) := by decide +kernel
theorem d_Md_undo_5 : decode b_Md_undo 5 = .ok (.getfield 37, 3) := by decide +kernel
theorem d_Md_undo_8 : decode b_Md_undo 8 = .ok (.invokevirtual 366, 3) := by decide +kernel
theorem d_Md_undo_11 : decode b_Md_undo 11 = .ok (.aload_n 0, 1) := by decide +kernel
theorem d_Md_undo_12 : decode b_Md_undo 12 = .ok (.getfield 87, 3) := by decide +kernel
theorem d_Md_undo_15 : decode b_Md_undo 15 = .ok (.iload_n 1, 1) := by decide +kernel
theorem d_Md_undo_16 : decode b_Md_undo 16 = .ok (.iaload, 1) := by decide +kernel
theorem d_Md_undo_17 : decode b_Md_undo 17 = .ok (.istore_n 3, 1) := by decide +kernel
theorem d_Md_undo_18 : decode b_Md_undo 18 = .ok (.aload_n 0, 1) := by decide +kernel
theorem d_Md_undo_19 : decode b_Md_undo 19 = .ok (.iload_n 3, 1) := by decide +kernel
theorem d_Md_undo_20 : decode b_Md_undo 20 = .ok (.invokevirtual 325, 3) := by decide +kernel
theorem d_Md_undo_23 : decode b_Md_undo 23 = .ok (.iconst 2, 1) := by decide +kernel
theorem d_Md_undo_24 : decode b_Md_undo 24 = .ok (.ishr, 1) := by decide +kernel
theorem d_Md_undo_25 : decode b_Md_undo 25 = .ok (.istore 4, 2) := by decide +kernel
theorem d_Md_undo_27 : decode b_Md_undo 27 = .ok (.aload_n 0, 1) := by decide +kernel
theorem d_Md_undo_28 : decode b_Md_undo 28 = .ok (.aload_n 0, 1) := by decide +kernel
theorem d_Md_undo_29 : decode b_Md_undo 29 = .ok (.iload_n 3, 1) := by decide +kernel
theorem d_Md_undo_30 : decode b_Md_undo 30 = .ok (.invokevirtual 333, 3) := by decide +kernel
theorem d_Md_undo_33 : decode b_Md_undo 33 = .ok (.invokevirtual 325, 3) := by decide +kernel
theorem d_Md_undo_36 : decode b_Md_undo 36 = .ok (.iconst 2, 1) := by decide +kernel
theorem d_Md_undo_37 : decode b_Md_undo 37 = .ok (.ishr, 1) := by decide +kernel
theorem d_Md_undo_38 : decode b_Md_undo 38 = .ok (.istore 5, 2) := by decide +kernel
theorem d_Md_undo_40 : decode b_Md_undo 40 = .ok (.iload_n 2, 1) := by decide +kernel
theorem d_Md_undo_41 : decode b_Md_undo 41 = .ok (.iconst 1, 1) := by decide +kernel
theorem d_Md_undo_42 : decode b_Md_undo 42 = .ok (.if_icmp .ne 12, 3) := by decide +kernel
theorem d_Md_undo_45 : decode b_Md_undo 45 = .ok (.aload_n 0, 1) := by decide +kernel
theorem d_Md_undo_46 : decode b_Md_undo 46 = .ok (.iload 4, 2) := by decide +kernel
theorem d_Md_undo_48 : decode b_Md_undo 48 = .ok (.invokevirtual 379, 3) := by decide +kernel
theorem d_Md_undo_51 : decode b_Md_undo 51 = .ok (.goto 43, 3) := by decide +kernel
theorem d_Md_undo_54 : decode b_Md_undo 54 = .ok (.aload_n 0, 1) := by decide +kernel
theorem d_Md_undo_55 : decode b_Md_undo 55 = .ok (.iload 4, 2) := by decide +kernel
theorem d_Md_undo_57 : decode b_Md_undo 57 = .ok (.iload 5, 2) := by decide +kernel
theorem d_Md_undo_59 : decode b_Md_undo 59 = .ok (.if_icmp .ge 8, 3) := by decide +kernel
theorem d_Md_undo_62 : decode b_Md_undo 62 = .ok (.iload 4, 2) := by decide +kernel
theorem d_Md_undo_64 : decode b_Md_undo 64 = .ok (.goto 5, 3) := by decide +kernel
theorem d_Md_undo_67 : decode b_Md_undo 67 = .ok (.iload 5, 2) := by decide +kernel
theorem d_Md_undo_69 : decode b_Md_undo 69 = .ok (.invokevirtual 379, 3) := by decide +kernel
theorem d_Md_undo_72 : decode b_Md_undo 72 = .ok (.aload_n 0, 1) := by decide +kernel
theorem d_Md_undo_73 : decode b_Md_undo 73 = .ok (.iload 4, 2) := by decide +kernel
theorem d_Md_undo_75 : decode b_Md_undo 75 = .ok (.iload 5, 2) := by decide +kernel
theorem d_Md_undo_77 : decode b_Md_undo 77 = .ok (.if_icmp .ge 10, 3) := by decide +kernel
theorem d_Md_undo_80 : decode b_Md_undo 80 = .ok (.iload 5, 2) := by decide +kernel
theorem d_Md_undo_82 : decode b_Md_undo 82 = .ok (.iconst 1, 1) := by decide +kernel
theorem d_Md_undo_83 : decode b_Md_undo 83 = .ok (.isub, 1) := by decide +kernel
theorem d_Md_undo_84 : decode b_Md_undo 84 = .ok (.goto 7, 3) := by decide +kernel
theorem d_Md_undo_87 : decode b_Md_undo 87 = .ok (.iload 4, 2) := by decide +kernel
theorem d_Md_undo_89 : decode b_Md_undo 89 = .ok (.iconst 1, 1) := by decide +kernel
theorem d_Md_undo_90 : decode b_Md_undo 90 = .ok (.isub, 1) := by decide +kernel
theorem d_Md_undo_91 : decode b_Md_undo 91 = .ok (.invokevirtual 379, 3) := by decide +kernel
theorem d_Md_undo_94 : decode b_Md_undo 94 = .ok (.aload_n 0, 1) := by decide +kernel
theorem d_Md_undo_95 : decode b_Md_undo 95 = .ok (.invokevirtual 382, 3) := by decide +kernel
theorem d_Md_undo_98 : decode b_Md_undo 98 = .ok (.ireturn, 1) := by decide +kernel
theorem d_Md_undoAt_0 : decode b_Md_undoAt 0 = .ok (.iload_n 1, 1) := by decide +kernel
theorem d_Md_undoAt_1 : decode b_Md_undoAt 1 = .ok (.aload_n 0, 1) := by decide +kernel
theorem d_Md_undoAt_2 : decode b_Md_undoAt 2 = .ok (.getfield 331, 3) := by decide +kernel
theorem d_Md_undoAt_5 : decode b_Md_undoAt 5 = .ok (.if_icmp .ge 11, 3) := by decide +kernel
theorem d_Md_undoAt_8 : decode b_Md_undoAt 8 = .ok (.aload_n 0, 1) := by decide +kernel
theorem d_Md_undoAt_9 : decode b_Md_undoAt 9 = .ok (.iload_n 1, 1) := by decide +kernel
theorem d_Md_undoAt_10 : decode b_Md_undoAt 10 = .ok (.invokevirtual 577, 3) := by decide +kernel
theorem d_Md_undoAt_13 : decode b_Md_undoAt 13 = .ok (.goto 4, 3) := by decide +kernel
theorem d_Md_undoAt_16 : decode b_Md_undoAt 16 = .ok (.iconst 0, 1) := by decide +kernel
theorem d_Md_undoAt_17 : decode b_Md_undoAt 17 = .ok (.istore_n 2, 1) := by decide +kernel
theorem d_Md_undoAt_18 : decode b_Md_undoAt 18 = .ok (.iload_n 2, 1) := by decide +kernel
theorem d_Md_undoAt_19 : decode b_Md_undoAt 19 = .ok (.iconst 1, 1) := by decide +kernel
theorem d_Md_undoAt_20 : decode b_Md_undoAt 20 = .ok (.if_icmp .eq 8, 3) := by decide +kernel
theorem d_Md_undoAt_23 : decode b_Md_undoAt 23 = .ok (.iload_n 2, 1) := by decide +kernel
theorem d_Md_undoAt_24 : decode b_Md_undoAt 24 = .ok (.iconst 2, 1) := by decide +kernel
theorem d_Md_undoAt_25 : decode b_Md_undoAt 25 = .ok (.if_icmp .ne 20, 3) := by decide +kernel
theorem d_Md_undoAt_28 : decode b_Md_undoAt 28 = .ok (.aload_n 0, 1) := by decide +kernel
theorem d_Md_undoAt_29 : decode b_Md_undoAt 29 = .ok (.iload_n 1, 1) := by decide +kernel
theorem d_Md_undoAt_30 : decode b_Md_undoAt 30 = .ok (.iload_n 2, 1) := by decide +kernel
theorem d_Md_undoAt_31 : decode b_Md_undoAt 31 = .ok (.invokevirtual 580, 3) := by decide +kernel
theorem d_Md_undoAt_34 : decode b_Md_undoAt 34 = .ok (.ifCond .eq 11, 3) := by decide +kernel
theorem d_Md_undoAt_37 : decode b_Md_undoAt 37 = .ok (.aload_n 0, 1) := by decide +kernel
theorem d_Md_undoAt_38 : decode b_Md_undoAt 38 = .ok (.iload_n 2, 1) := by decide +kernel
theorem d_Md_undoAt_39 : decode b_Md_undoAt 39 = .ok (.invokevirtual 583, 3) := by decide +kernel
theorem d_Md_undoAt_42 : decode b_Md_undoAt 42 = .ok (.goto 10, 3) := by decide +kernel
theorem d_Md_undoAt_45 : decode b_Md_undoAt 45 = .ok (.aload_n 0, 1) := by decide +kernel
theorem d_Md_undoAt_46 : decode b_Md_undoAt 46 = .ok (.ldc_w 525, 3) := by decide +kernel
theorem d_Md_undoAt_49 : decode b_Md_undoAt 49 = .ok (.invokevirtual 527, 3) := by decide +kernel
theorem d_Md_undoAt_52 : decode b_Md_undoAt 52 = .ok (.return_, 1) := by decide +kernel
theorem d_Md_upperIn_0 : decode b_Md_upperIn 0 = .ok (.iconst 4, 1) := by decide +kernel
theorem d_Md_upperIn_1 : decode b_Md_upperIn 1 = .ok (.iload_n 1, 1) := by decide +kernel
theorem d_Md_upperIn_2 : decode b_Md_upperIn 2 = .ok (.imul, 1) := by decide +kernel
theorem d_Md_upperIn_3 : decode b_Md_upperIn 3 = .ok (.aload_n 0, 1) := by decide +kernel
theorem d_Md_upperIn_4 : decode b_Md_upperIn 4 = .ok (.getfield 37, 3) := by decide +kernel
theorem d_Md_upperIn_7 : decode b_Md_upperIn 7 = .ok (.getfield 306, 3) := by decide +kernel
theorem d_Md_upperIn_10 : decode b_Md_upperIn 10 = .ok (.iload_n 1, 1) := by decide +kernel
theorem d_Md_upperIn_11 : decode b_Md_upperIn 11 = .ok (.iaload, 1) := by decide +kernel
theorem d_Md_upperIn_12 : decode b_Md_upperIn 12 = .ok (.iconst 1, 1) := by decide +kernel
theorem d_Md_upperIn_13 : decode b_Md_upperIn 13 = .ok (.if_icmp .ne 7, 3) := by decide +kernel
theorem d_Md_upperIn_16 : decode b_Md_upperIn 16 = .ok (.iconst 3, 1) := by decide +kernel
theorem d_Md_upperIn_17 : decode b_Md_upperIn 17 = .ok (.goto 4, 3) := by decide +kernel
theorem d_Md_upperIn_20 : decode b_Md_upperIn 20 = .ok (.iconst 1, 1) := by decide +kernel
theorem d_Md_upperIn_21 : decode b_Md_upperIn 21 = .ok (.iadd, 1) := by decide +kernel
theorem d_Md_upperIn_22 : decode b_Md_upperIn 22 = .ok (.ireturn, 1) := by decide +kernel
theorem d_Md_uppers_0 : decode b_Md_uppers 0 = .ok (.aload_n 0, 1) := by decide +kernel
theorem d_Md_uppers_1 : decode b_Md_uppers 1 = .ok (.getfield 69, 3) := by decide +kernel
theorem d_Md_uppers_4 : decode b_Md_uppers 4 = .ok (.iload_n 1, 1) := by decide +kernel
theorem d_Md_uppers_5 : decode b_Md_uppers 5 = .ok (.iaload, 1) := by decide +kernel
theorem d_Md_uppers_6 : decode b_Md_uppers 6 = .ok (.invokestatic 370, 3) := by decide +kernel
theorem d_Md_uppers_9 : decode b_Md_uppers 9 = .ok (.ifCond .eq 7, 3) := by decide +kernel
theorem d_Md_uppers_12 : decode b_Md_uppers 12 = .ok (.iconst 1, 1) := by decide +kernel
theorem d_Md_uppers_13 : decode b_Md_uppers 13 = .ok (.goto 4, 3) := by decide +kernel
theorem d_Md_uppers_16 : decode b_Md_uppers 16 = .ok (.iconst 0, 1) := by decide +kernel
theorem d_Md_uppers_17 : decode b_Md_uppers 17 = .ok (.aload_n 0, 1) := by decide +kernel
theorem d_Md_uppers_18 : decode b_Md_uppers 18 = .ok (.getfield 72, 3) := by decide +kernel
theorem d_Md_uppers_21 : decode b_Md_uppers 21 = .ok (.iload_n 1, 1) := by decide +kernel
theorem d_Md_uppers_22 : decode b_Md_uppers 22 = .ok (.iaload, 1) := by decide +kernel
theorem d_Md_uppers_23 : decode b_Md_uppers 23 = .ok (.invokestatic 370, 3) := by decide +kernel
theorem d_Md_uppers_26 : decode b_Md_uppers 26 = .ok (.ifCond .eq 7, 3) := by decide +kernel
theorem d_Md_uppers_29 : decode b_Md_uppers 29 = .ok (.iconst 1, 1) := by decide +kernel
theorem d_Md_uppers_30 : decode b_Md_uppers 30 = .ok (.goto 4, 3) := by decide +kernel
theorem d_Md_uppers_33 : decode b_Md_uppers 33 = .ok (.iconst 0, 1) := by decide +kernel
