theorem d_Br_findForm_61 : decode b_Br_findForm 61 = .ok (.isub, 1) := by decide +kernel
theorem d_Br_findForm_62 : decode b_Br_findForm 62 = .ok (.invokevirtual 76, 3) := by decide +kernel
theorem d_Br_findForm_65 : decode b_Br_findForm 65 = .ok (.aload_n 0, 1) := by decide +kernel
theorem d_Br_findForm_66 : decode b_Br_findForm 66 = .ok (.invokevirtual 79, 3) := by decide +kernel
theorem d_Br_findForm_69 : decode b_Br_findForm 69 = .ok (.iinc 1 1, 3) := by decide +kernel
theorem d_Br_findForm_72 : decode b_Br_findForm 72 = .ok (.goto (-52), 3) := by decide +kernel
theorem d_Br_findForm_75 : decode b_Br_findForm 75 = .ok (.aload_n 0, 1) := by decide +kernel
theorem d_Br_findForm_76 : decode b_Br_findForm 76 = .ok (.iconst 1, 1) := by decide +kernel
theorem d_Br_findForm_77 : decode b_Br_findForm 77 = .ok (.putfield 43, 3) := by decide +kernel
theorem d_Br_findForm_80 : decode b_Br_findForm 80 = .ok (.return_, 1) := by decide +kernel
theorem d_Br_formAt_0 : decode b_Br_formAt 0 = .ok (.aload_n 0, 1) := by decide +kernel
theorem d_Br_formAt_1 : decode b_Br_formAt 1 = .ok (.invokevirtual 63, 3) := by decide +kernel
theorem d_Br_formAt_4 : decode b_Br_formAt 4 = .ok (.iload_n 1, 1) := by decide +kernel
theorem d_Br_formAt_5 : decode b_Br_formAt 5 = .ok (.ifCond .ne 8, 3) := by decide +kernel
theorem d_Br_formAt_8 : decode b_Br_formAt 8 = .ok (.aload_n 0, 1) := by decide +kernel
theorem d_Br_formAt_9 : decode b_Br_formAt 9 = .ok (.getfield 69, 3) := by decide +kernel
theorem d_Br_formAt_12 : decode b_Br_formAt 12 = .ok (.ireturn, 1) := by decide +kernel
theorem d_Br_formAt_13 : decode b_Br_formAt 13 = .ok (.iload_n 1, 1) := by decide +kernel
theorem d_Br_formAt_14 : decode b_Br_formAt 14 = .ok (.ifCond .lt 24, 3) := by decide +kernel
theorem d_Br_formAt_17 : decode b_Br_formAt 17 = .ok (.iload_n 1, 1) := by decide +kernel
theorem d_Br_formAt_18 : decode b_Br_formAt 18 = .ok (.aload_n 0, 1) := by decide +kernel
theorem d_Br_formAt_19 : decode b_Br_formAt 19 = .ok (.getfield 66, 3) := by decide +kernel
theorem d_Br_formAt_22 : decode b_Br_formAt 22 = .ok (.if_icmp .gt 16, 3) := by decide +kernel
theorem d_Br_formAt_25 : decode b_Br_formAt 25 = .ok (.iload_n 2, 1) := by decide +kernel
theorem d_Br_formAt_26 : decode b_Br_formAt 26 = .ok (.iconst 1, 1) := by decide +kernel
theorem d_Br_formAt_27 : decode b_Br_formAt 27 = .ok (.if_icmp .lt 11, 3) := by decide +kernel
theorem d_Br_formAt_30 : decode b_Br_formAt 30 = .ok (.iload_n 2, 1) := by decide +kernel
theorem d_Br_formAt_31 : decode b_Br_formAt 31 = .ok (.aload_n 0, 1) := by decide +kernel
theorem d_Br_formAt_32 : decode b_Br_formAt 32 = .ok (.getfield 21, 3) := by decide +kernel
theorem d_Br_formAt_35 : decode b_Br_formAt 35 = .ok (.if_icmp .le 5, 3) := by decide +kernel
theorem d_Br_formAt_38 : decode b_Br_formAt 38 = .ok (.iconst 0, 1) := by decide +kernel
theorem d_Br_formAt_39 : decode b_Br_formAt 39 = .ok (.ireturn, 1) := by decide +kernel
theorem d_Br_formAt_40 : decode b_Br_formAt 40 = .ok (.aload_n 0, 1) := by decide +kernel
theorem d_Br_formAt_41 : decode b_Br_formAt 41 = .ok (.getfield 15, 3) := by decide +kernel
theorem d_Br_formAt_44 : decode b_Br_formAt 44 = .ok (.iload_n 1, 1) := by decide +kernel
theorem d_Br_formAt_45 : decode b_Br_formAt 45 = .ok (.iconst 1, 1) := by decide +kernel
theorem d_Br_formAt_46 : decode b_Br_formAt 46 = .ok (.isub, 1) := by decide +kernel
theorem d_Br_formAt_47 : decode b_Br_formAt 47 = .ok (.bipush 8, 2) := by decide +kernel
theorem d_Br_formAt_49 : decode b_Br_formAt 49 = .ok (.imul, 1) := by decide +kernel
theorem d_Br_formAt_50 : decode b_Br_formAt 50 = .ok (.iload_n 2, 1) := by decide +kernel
theorem d_Br_formAt_51 : decode b_Br_formAt 51 = .ok (.iadd, 1) := by decide +kernel
theorem d_Br_formAt_52 : decode b_Br_formAt 52 = .ok (.iconst 1, 1) := by decide +kernel
theorem d_Br_formAt_53 : decode b_Br_formAt 53 = .ok (.isub, 1) := by decide +kernel
theorem d_Br_formAt_54 : decode b_Br_formAt 54 = .ok (.iaload, 1) := by decide +kernel
theorem d_Br_formAt_55 : decode b_Br_formAt 55 = .ok (.iconst 1, 1) := by decide +kernel
theorem d_Br_formAt_56 : decode b_Br_formAt 56 = .ok (.iadd, 1) := by decide +kernel
theorem d_Br_formAt_57 : decode b_Br_formAt 57 = .ok (.ireturn, 1) := by decide +kernel
theorem d_Br_isNone_0 : decode b_Br_isNone 0 = .ok (.iconst 0, 1) := by decide +kernel
theorem d_Br_isNone_1 : decode b_Br_isNone 1 = .ok (.istore_n 2, 1) := by decide +kernel
theorem d_Br_isNone_2 : decode b_Br_isNone 2 = .ok (.iload_n 2, 1) := by decide +kernel
theorem d_Br_isNone_3 : decode b_Br_isNone 3 = .ok (.aload_n 0, 1) := by decide +kernel
theorem d_Br_isNone_4 : decode b_Br_isNone 4 = .ok (.getfield 21, 3) := by decide +kernel
theorem d_Br_isNone_7 : decode b_Br_isNone 7 = .ok (.if_icmp .ge 23, 3) := by decide +kernel
theorem d_Br_isNone_10 : decode b_Br_isNone 10 = .ok (.aload_n 0, 1) := by decide +kernel
theorem d_Br_isNone_11 : decode b_Br_isNone 11 = .ok (.getfield 15, 3) := by decide +kernel
theorem d_Br_isNone_14 : decode b_Br_isNone 14 = .ok (.iload_n 1, 1) := by decide +kernel
theorem d_Br_isNone_15 : decode b_Br_isNone 15 = .ok (.iload_n 2, 1) := by decide +kernel
theorem d_Br_isNone_16 : decode b_Br_isNone 16 = .ok (.iadd, 1) := by decide +kernel
theorem d_Br_isNone_17 : decode b_Br_isNone 17 = .ok (.iaload, 1) := by decide +kernel
theorem d_Br_isNone_18 : decode b_Br_isNone 18 = .ok (.iload_n 2, 1) := by decide +kernel
theorem d_Br_isNone_19 : decode b_Br_isNone 19 = .ok (.if_icmp .eq 5, 3) := by decide +kernel
theorem d_Br_isNone_22 : decode b_Br_isNone 22 = .ok (.iconst 0, 1) := by decide +kernel
theorem d_Br_isNone_23 : decode b_Br_isNone 23 = .ok (.ireturn, 1) := by decide +kernel
theorem d_Br_isNone_24 : decode b_Br_isNone 24 = .ok (.iinc 2 1, 3) := by decide +kernel
theorem d_Br_isNone_27 : decode b_Br_isNone 27 = .ok (.goto (-25), 3) := by decide +kernel
theorem d_Br_isNone_30 : decode b_Br_isNone 30 = .ok (.iconst 1, 1) := by decide +kernel
theorem d_Br_isNone_31 : decode b_Br_isNone 31 = .ok (.ireturn, 1) := by decide +kernel
theorem d_Br_isOneBraidWith_0 : decode b_Br_isOneBraidWith 0 = .ok (.aload_n 0, 1) := by decide +kernel
theorem d_Br_isOneBraidWith_1 : decode b_Br_isOneBraidWith 1 = .ok (.invokevirtual 63, 3) := by decide +kernel
theorem d_Br_isOneBraidWith_4 : decode b_Br_isOneBraidWith 4 = .ok (.aload_n 1, 1) := by decide +kernel
theorem d_Br_isOneBraidWith_5 : decode b_Br_isOneBraidWith 5 = .ok (.invokevirtual 63, 3) := by decide +kernel
theorem d_Br_isOneBraidWith_8 : decode b_Br_isOneBraidWith 8 = .ok (.aload_n 0, 1) := by decide +kernel
theorem d_Br_isOneBraidWith_9 : decode b_Br_isOneBraidWith 9 = .ok (.getfield 21, 3) := by decide +kernel
theorem d_Br_isOneBraidWith_12 : decode b_Br_isOneBraidWith 12 = .ok (.aload_n 1, 1) := by decide +kernel
theorem d_Br_isOneBraidWith_13 : decode b_Br_isOneBraidWith 13 = .ok (.getfield 21, 3) := by decide +kernel
theorem d_Br_isOneBraidWith_16 : decode b_Br_isOneBraidWith 16 = .ok (.if_icmp .ne 25, 3) := by decide +kernel
theorem d_Br_isOneBraidWith_19 : decode b_Br_isOneBraidWith 19 = .ok (.aload_n 0, 1) := by decide +kernel
theorem d_Br_isOneBraidWith_20 : decode b_Br_isOneBraidWith 20 = .ok (.getfield 69, 3) := by decide +kernel
theorem d_Br_isOneBraidWith_23 : decode b_Br_isOneBraidWith 23 = .ok (.aload_n 1, 1) := by decide +kernel
theorem d_Br_isOneBraidWith_24 : decode b_Br_isOneBraidWith 24 = .ok (.getfield 69, 3) := by decide +kernel
theorem d_Br_isOneBraidWith_27 : decode b_Br_isOneBraidWith 27 = .ok (.if_icmp .ne 14, 3) := by decide +kernel
theorem d_Br_isOneBraidWith_30 : decode b_Br_isOneBraidWith 30 = .ok (.aload_n 0, 1) := by decide +kernel
theorem d_Br_isOneBraidWith_31 : decode b_Br_isOneBraidWith 31 = .ok (.getfield 66, 3) := by decide +kernel
theorem d_Br_isOneBraidWith_34 : decode b_Br_isOneBraidWith 34 = .ok (.aload_n 1, 1) := by decide +kernel
theorem d_Br_isOneBraidWith_35 : decode b_Br_isOneBraidWith 35 = .ok (.getfield 66, 3) := by decide +kernel
theorem d_Br_isOneBraidWith_38 : decode b_Br_isOneBraidWith 38 = .ok (.if_icmp .eq 5, 3) := by decide +kernel
theorem d_Br_isOneBraidWith_41 : decode b_Br_isOneBraidWith 41 = .ok (.iconst 0, 1) := by decide +kernel
theorem d_Br_isOneBraidWith_42 : decode b_Br_isOneBraidWith 42 = .ok (.ireturn, 1) := by decide +kernel
theorem d_Br_isOneBraidWith_43 : decode b_Br_isOneBraidWith 43 = .ok (.iconst 0, 1) := by decide +kernel
theorem d_Br_isOneBraidWith_44 : decode b_Br_isOneBraidWith 44 = .ok (.istore_n 2, 1) := by decide +kernel
theorem d_Br_isOneBraidWith_45 : decode b_Br_isOneBraidWith 45 = .ok (.iload_n 2, 1) := by decide +kernel
theorem d_Br_isOneBraidWith_46 : decode b_Br_isOneBraidWith 46 = .ok (.aload_n 0, 1) := by decide +kernel
theorem d_Br_isOneBraidWith_47 : decode b_Br_isOneBraidWith 47 = .ok (.getfield 66, 3) := by decide +kernel
theorem d_Br_isOneBraidWith_50 : decode b_Br_isOneBraidWith 50 = .ok (.if_icmp .ge 52, 3) := by decide +kernel
theorem d_Br_isOneBraidWith_53 : decode b_Br_isOneBraidWith 53 = .ok (.iconst 0, 1) := by decide +kernel
theorem d_Br_isOneBraidWith_54 : decode b_Br_isOneBraidWith 54 = .ok (.istore_n 3, 1) := by decide +kernel
theorem d_Br_isOneBraidWith_55 : decode b_Br_isOneBraidWith 55 = .ok (.iload_n 3, 1) := by decide +kernel
theorem d_Br_isOneBraidWith_56 : decode b_Br_isOneBraidWith 56 = .ok (.aload_n 0, 1) := by decide +kernel
theorem d_Br_isOneBraidWith_57 : decode b_Br_isOneBraidWith 57 = .ok (.getfield 21, 3) := by decide +kernel
theorem d_Br_isOneBraidWith_60 : decode b_Br_isOneBraidWith 60 = .ok (.if_icmp .ge 36, 3) := by decide +kernel
theorem d_Br_isOneBraidWith_63 : decode b_Br_isOneBraidWith 63 = .ok (.aload_n 0, 1) := by decide +kernel
theorem d_Br_isOneBraidWith_64 : decode b_Br_isOneBraidWith 64 = .ok (.getfield 15, 3) := by decide +kernel
theorem d_Br_isOneBraidWith_67 : decode b_Br_isOneBraidWith 67 = .ok (.iload_n 2, 1) := by decide +kernel
theorem d_Br_isOneBraidWith_68 : decode b_Br_isOneBraidWith 68 = .ok (.bipush 8, 2) := by decide +kernel
theorem d_Br_isOneBraidWith_70 : decode b_Br_isOneBraidWith 70 = .ok (.imul, 1) := by decide +kernel
theorem d_Br_isOneBraidWith_71 : decode b_Br_isOneBraidWith 71 = .ok (.iload_n 3, 1) := by decide +kernel
theorem d_Br_isOneBraidWith_72 : decode b_Br_isOneBraidWith 72 = .ok (.iadd, 1) := by decide +kernel
theorem d_Br_isOneBraidWith_73 : decode b_Br_isOneBraidWith 73 = .ok (.iaload, 1) := by decide +kernel
theorem d_Br_isOneBraidWith_74 : decode b_Br_isOneBraidWith 74 = .ok (.aload_n 1, 1) := by decide +kernel
theorem d_Br_isOneBraidWith_75 : decode b_Br_isOneBraidWith 75 = .ok (.getfield 15, 3) := by decide +kernel
theorem d_Br_isOneBraidWith_78 : decode b_Br_isOneBraidWith 78 = .ok (.iload_n 2, 1) := by decide +kernel
theorem d_Br_isOneBraidWith_79 : decode b_Br_isOneBraidWith 79 = .ok (.bipush 8, 2) := by decide +kernel
theorem d_Br_isOneBraidWith_81 : decode b_Br_isOneBraidWith 81 = .ok (.imul, 1) := by decide +kernel
theorem d_Br_isOneBraidWith_82 : decode b_Br_isOneBraidWith 82 = .ok (.iload_n 3, 1) := by decide +kernel
theorem d_Br_isOneBraidWith_83 : decode b_Br_isOneBraidWith 83 = .ok (.iadd, 1) := by decide +kernel
theorem d_Br_isOneBraidWith_84 : decode b_Br_isOneBraidWith 84 = .ok (.iaload, 1) := by decide +kernel
theorem d_Br_isOneBraidWith_85 : decode b_Br_isOneBraidWith 85 = .ok (.if_icmp .eq 5, 3) := by decide +kernel
theorem d_Br_isOneBraidWith_88 : decode b_Br_isOneBraidWith 88 = .ok (.iconst 0, 1) := by decide +kernel
theorem d_Br_isOneBraidWith_89 : decode b_Br_isOneBraidWith 89 = .ok (.ireturn, 1) := by decide +kernel
theorem d_Br_isOneBraidWith_90 : decode b_Br_isOneBraidWith 90 = .ok (.iinc 3 1, 3) := by decide +kernel
theorem d_Br_isOneBraidWith_93 : decode b_Br_isOneBraidWith 93 = .ok (.goto (-38), 3) := by decide +kernel
theorem d_Br_isOneBraidWith_96 : decode b_Br_isOneBraidWith 96 = .ok (.iinc 2 1, 3) := by decide +kernel
theorem d_Br_isOneBraidWith_99 : decode b_Br_isOneBraidWith 99 = .ok (.goto (-54), 3) := by decide +kernel
theorem d_Br_isOneBraidWith_102 : decode b_Br_isOneBraidWith 102 = .ok (.iconst 1, 1) := by decide +kernel
theorem d_Br_isOneBraidWith_103 : decode b_Br_isOneBraidWith 103 = .ok (.ireturn, 1) := by decide +kernel
theorem d_Br_isTurn_0 : decode b_Br_isTurn 0 = .ok (.iconst 0, 1) := by decide +kernel
theorem d_Br_isTurn_1 : decode b_Br_isTurn 1 = .ok (.istore_n 2, 1) := by decide +kernel
theorem d_Br_isTurn_2 : decode b_Br_isTurn 2 = .ok (.iload_n 2, 1) := by decide +kernel
theorem d_Br_isTurn_3 : decode b_Br_isTurn 3 = .ok (.aload_n 0, 1) := by decide +kernel
theorem d_Br_isTurn_4 : decode b_Br_isTurn 4 = .ok (.getfield 21, 3) := by decide +kernel
theorem d_Br_isTurn_7 : decode b_Br_isTurn 7 = .ok (.if_icmp .ge 30, 3) := by decide +kernel
theorem d_Br_isTurn_10 : decode b_Br_isTurn 10 = .ok (.aload_n 0, 1) := by decide +kernel
theorem d_Br_isTurn_11 : decode b_Br_isTurn 11 = .ok (.getfield 15, 3) := by decide +kernel
theorem d_Br_isTurn_14 : decode b_Br_isTurn 14 = .ok (.iload_n 1, 1) := by decide +kernel
theorem d_Br_isTurn_15 : decode b_Br_isTurn 15 = .ok (.iload_n 2, 1) := by decide +kernel
theorem d_Br_isTurn_16 : decode b_Br_isTurn 16 = .ok (.iadd, 1) := by decide +kernel
theorem d_Br_isTurn_17 : decode b_Br_isTurn 17 = .ok (.iaload, 1) := by decide +kernel
theorem d_Br_isTurn_18 : decode b_Br_isTurn 18 = .ok (.aload_n 0, 1) := by decide +kernel
theorem d_Br_isTurn_19 : decode b_Br_isTurn 19 = .ok (.getfield 21, 3) := by decide +kernel
theorem d_Br_isTurn_22 : decode b_Br_isTurn 22 = .ok (.iconst 1, 1) := by decide +kernel
theorem d_Br_isTurn_23 : decode b_Br_isTurn 23 = .ok (.isub, 1) := by decide +kernel
theorem d_Br_isTurn_24 : decode b_Br_isTurn 24 = .ok (.iload_n 2, 1) := by decide +kernel
theorem d_Br_isTurn_25 : decode b_Br_isTurn 25 = .ok (.isub, 1) := by decide +kernel
theorem d_Br_isTurn_26 : decode b_Br_isTurn 26 = .ok (.if_icmp .eq 5, 3) := by decide +kernel
theorem d_Br_isTurn_29 : decode b_Br_isTurn 29 = .ok (.iconst 0, 1) := by decide +kernel
theorem d_Br_isTurn_30 : decode b_Br_isTurn 30 = .ok (.ireturn, 1) := by decide +kernel
theorem d_Br_isTurn_31 : decode b_Br_isTurn 31 = .ok (.iinc 2 1, 3) := by decide +kernel
theorem d_Br_isTurn_34 : decode b_Br_isTurn 34 = .ok (.goto (-32), 3) := by decide +kernel
theorem d_Br_isTurn_37 : decode b_Br_isTurn 37 = .ok (.iconst 1, 1) := by decide +kernel
theorem d_Br_isTurn_38 : decode b_Br_isTurn 38 = .ok (.ireturn, 1) := by decide +kernel
theorem d_Br_moveSwap_0 : decode b_Br_moveSwap 0 = .ok (.aload_n 0, 1) := by decide +kernel
theorem d_Br_moveSwap_1 : decode b_Br_moveSwap 1 = .ok (.getfield 18, 3) := by decide +kernel
theorem d_Br_moveSwap_4 : decode b_Br_moveSwap 4 = .ok (.iload_n 3, 1) := by decide +kernel
theorem d_Br_moveSwap_5 : decode b_Br_moveSwap 5 = .ok (.iaload, 1) := by decide +kernel
theorem d_Br_moveSwap_6 : decode b_Br_moveSwap 6 = .ok (.istore 4, 2) := by decide +kernel
theorem d_Br_moveSwap_8 : decode b_Br_moveSwap 8 = .ok (.aload_n 0, 1) := by decide +kernel
theorem d_Br_moveSwap_9 : decode b_Br_moveSwap 9 = .ok (.getfield 18, 3) := by decide +kernel
theorem d_Br_moveSwap_12 : decode b_Br_moveSwap 12 = .ok (.iload_n 3, 1) := by decide +kernel
theorem d_Br_moveSwap_13 : decode b_Br_moveSwap 13 = .ok (.iconst 1, 1) := by decide +kernel
theorem d_Br_moveSwap_14 : decode b_Br_moveSwap 14 = .ok (.iadd, 1) := by decide +kernel
theorem d_Br_moveSwap_15 : decode b_Br_moveSwap 15 = .ok (.iaload, 1) := by decide +kernel
theorem d_Br_moveSwap_16 : decode b_Br_moveSwap 16 = .ok (.istore 5, 2) := by decide +kernel
theorem d_Br_moveSwap_18 : decode b_Br_moveSwap 18 = .ok (.aload_n 0, 1) := by decide +kernel
theorem d_Br_moveSwap_19 : decode b_Br_moveSwap 19 = .ok (.getfield 15, 3) := by decide +kernel
theorem d_Br_moveSwap_22 : decode b_Br_moveSwap 22 = .ok (.iload_n 1, 1) := by decide +kernel
theorem d_Br_moveSwap_23 : decode b_Br_moveSwap 23 = .ok (.iload 4, 2) := by decide +kernel
theorem d_Br_moveSwap_25 : decode b_Br_moveSwap 25 = .ok (.iadd, 1) := by decide +kernel
theorem d_Br_moveSwap_26 : decode b_Br_moveSwap 26 = .ok (.iload_n 3, 1) := by decide +kernel
theorem d_Br_moveSwap_27 : decode b_Br_moveSwap 27 = .ok (.iconst 1, 1) := by decide +kernel
theorem d_Br_moveSwap_28 : decode b_Br_moveSwap 28 = .ok (.iadd, 1) := by decide +kernel
theorem d_Br_moveSwap_29 : decode b_Br_moveSwap 29 = .ok (.iastore, 1) := by decide +kernel
theorem d_Br_moveSwap_30 : decode b_Br_moveSwap 30 = .ok (.aload_n 0, 1) := by decide +kernel
theorem d_Br_moveSwap_31 : decode b_Br_moveSwap 31 = .ok (.getfield 15, 3) := by decide +kernel
theorem d_Br_moveSwap_34 : decode b_Br_moveSwap 34 = .ok (.iload_n 1, 1) := by decide +kernel
theorem d_Br_moveSwap_35 : decode b_Br_moveSwap 35 = .ok (.iload 5, 2) := by decide +kernel
theorem d_Br_moveSwap_37 : decode b_Br_moveSwap 37 = .ok (.iadd, 1) := by decide +kernel
theorem d_Br_moveSwap_38 : decode b_Br_moveSwap 38 = .ok (.iload_n 3, 1) := by decide +kernel
theorem d_Br_moveSwap_39 : decode b_Br_moveSwap 39 = .ok (.iastore, 1) := by decide +kernel
theorem d_Br_moveSwap_40 : decode b_Br_moveSwap 40 = .ok (.aload_n 0, 1) := by decide +kernel
theorem d_Br_moveSwap_41 : decode b_Br_moveSwap 41 = .ok (.getfield 18, 3) := by decide +kernel
theorem d_Br_moveSwap_44 : decode b_Br_moveSwap 44 = .ok (.iload_n 3, 1) := by decide +kernel
theorem d_Br_moveSwap_45 : decode b_Br_moveSwap 45 = .ok (.iload 5, 2) := by decide +kernel
theorem d_Br_moveSwap_47 : decode b_Br_moveSwap 47 = .ok (.iastore, 1) := by decide +kernel
theorem d_Br_moveSwap_48 : decode b_Br_moveSwap 48 = .ok (.aload_n 0, 1) := by decide +kernel
theorem d_Br_moveSwap_49 : decode b_Br_moveSwap 49 = .ok (.getfield 18, 3) := by decide +kernel
theorem d_Br_moveSwap_52 : decode b_Br_moveSwap 52 = .ok (.iload_n 3, 1) := by decide +kernel
theorem d_Br_moveSwap_53 : decode b_Br_moveSwap 53 = .ok (.iconst 1, 1) := by decide +kernel
theorem d_Br_moveSwap_54 : decode b_Br_moveSwap 54 = .ok (.iadd, 1) := by decide +kernel
theorem d_Br_moveSwap_55 : decode b_Br_moveSwap 55 = .ok (.iload 4, 2) := by decide +kernel
theorem d_Br_moveSwap_57 : decode b_Br_moveSwap 57 = .ok (.iastore, 1) := by decide +kernel
theorem d_Br_moveSwap_58 : decode b_Br_moveSwap 58 = .ok (.aload_n 0, 1) := by decide +kernel
theorem d_Br_moveSwap_59 : decode b_Br_moveSwap 59 = .ok (.getfield 15, 3) := by decide +kernel
theorem d_Br_moveSwap_62 : decode b_Br_moveSwap 62 = .ok (.iload_n 2, 1) := by decide +kernel
theorem d_Br_moveSwap_63 : decode b_Br_moveSwap 63 = .ok (.iload_n 3, 1) := by decide +kernel
theorem d_Br_moveSwap_64 : decode b_Br_moveSwap 64 = .ok (.iadd, 1) := by decide +kernel
theorem d_Br_moveSwap_65 : decode b_Br_moveSwap 65 = .ok (.iaload, 1) := by decide +kernel
theorem d_Br_moveSwap_66 : decode b_Br_moveSwap 66 = .ok (.istore 6, 2) := by decide +kernel
theorem d_Br_moveSwap_68 : decode b_Br_moveSwap 68 = .ok (.aload_n 0, 1) := by decide +kernel
theorem d_Br_moveSwap_69 : decode b_Br_moveSwap 69 = .ok (.getfield 15, 3) := by decide +kernel
theorem d_Br_moveSwap_72 : decode b_Br_moveSwap 72 = .ok (.iload_n 2, 1) := by decide +kernel
