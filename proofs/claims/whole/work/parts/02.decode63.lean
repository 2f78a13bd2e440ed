theorem d_Md_smoothAt_30 : decode b_Md_smoothAt 30 = .ok (.invokevirtual 382, 3) := by decide +kernel
theorem d_Md_smoothAt_33 : decode b_Md_smoothAt 33 = .ok (.ireturn, 1) := by decide +kernel
theorem d_Md_stands_0 : decode b_Md_stands 0 = .ok (.aload_n 0, 1) := by decide +kernel
theorem d_Md_stands_1 : decode b_Md_stands 1 = .ok (.getfield 37, 3) := by decide +kernel
theorem d_Md_stands_4 : decode b_Md_stands 4 = .ok (.getfield 354, 3) := by decide +kernel
theorem d_Md_stands_7 : decode b_Md_stands 7 = .ok (.bipush 20, 2) := by decide +kernel
theorem d_Md_stands_9 : decode b_Md_stands 9 = .ok (.if_icmp .gt 5, 3) := by decide +kernel
theorem d_Md_stands_12 : decode b_Md_stands 12 = .ok (.iconst 1, 1) := by decide +kernel
theorem d_Md_stands_13 : decode b_Md_stands 13 = .ok (.ireturn, 1) := by decide +kernel
theorem d_Md_stands_14 : decode b_Md_stands 14 = .ok (.aload_n 0, 1) := by decide +kernel
theorem d_Md_stands_15 : decode b_Md_stands 15 = .ok (.getfield 37, 3) := by decide +kernel
theorem d_Md_stands_18 : decode b_Md_stands 18 = .ok (.aload_n 0, 1) := by decide +kernel
theorem d_Md_stands_19 : decode b_Md_stands 19 = .ok (.getfield 41, 3) := by decide +kernel
theorem d_Md_stands_22 : decode b_Md_stands 22 = .ok (.invokevirtual 366, 3) := by decide +kernel
theorem d_Md_stands_25 : decode b_Md_stands 25 = .ok (.iconst 0, 1) := by decide +kernel
theorem d_Md_stands_26 : decode b_Md_stands 26 = .ok (.ireturn, 1) := by decide +kernel
theorem d_Md_state_0 : decode b_Md_state 0 = .ok (.aload_n 0, 1) := by decide +kernel
theorem d_Md_state_1 : decode b_Md_state 1 = .ok (.invokevirtual 558, 3) := by decide +kernel
theorem d_Md_state_4 : decode b_Md_state 4 = .ok (.iload_n 1, 1) := by decide +kernel
theorem d_Md_state_5 : decode b_Md_state 5 = .ok (.tableswitch 126 0 7 #[47, 57, 82, 90, 98, 103, 116, 121], 47) := by decide +kernel
theorem d_Md_state_52 : decode b_Md_state 52 = .ok (.aload_n 0, 1) := by decide +kernel
theorem d_Md_state_53 : decode b_Md_state 53 = .ok (.getfield 284, 3) := by decide +kernel
theorem d_Md_state_56 : decode b_Md_state 56 = .ok (.aload_n 0, 1) := by decide +kernel
theorem d_Md_state_57 : decode b_Md_state 57 = .ok (.getfield 290, 3) := by decide +kernel
theorem d_Md_state_60 : decode b_Md_state 60 = .ok (.isub, 1) := by decide +kernel
theorem d_Md_state_61 : decode b_Md_state 61 = .ok (.ireturn, 1) := by decide +kernel
theorem d_Md_state_62 : decode b_Md_state 62 = .ok (.aload_n 0, 1) := by decide +kernel
theorem d_Md_state_63 : decode b_Md_state 63 = .ok (.getfield 290, 3) := by decide +kernel
theorem d_Md_state_66 : decode b_Md_state 66 = .ok (.aload_n 0, 1) := by decide +kernel
theorem d_Md_state_67 : decode b_Md_state 67 = .ok (.getfield 284, 3) := by decide +kernel
theorem d_Md_state_70 : decode b_Md_state 70 = .ok (.if_icmp .ge 15, 3) := by decide +kernel
theorem d_Md_state_73 : decode b_Md_state 73 = .ok (.aload_n 0, 1) := by decide +kernel
theorem d_Md_state_74 : decode b_Md_state 74 = .ok (.getfield 23, 3) := by decide +kernel
theorem d_Md_state_77 : decode b_Md_state 77 = .ok (.aload_n 0, 1) := by decide +kernel
theorem d_Md_state_78 : decode b_Md_state 78 = .ok (.getfield 290, 3) := by decide +kernel
theorem d_Md_state_81 : decode b_Md_state 81 = .ok (.iaload, 1) := by decide +kernel
theorem d_Md_state_82 : decode b_Md_state 82 = .ok (.goto 4, 3) := by decide +kernel
theorem d_Md_state_85 : decode b_Md_state 85 = .ok (.iconst 0, 1) := by decide +kernel
theorem d_Md_state_86 : decode b_Md_state 86 = .ok (.ireturn, 1) := by decide +kernel
theorem d_Md_state_87 : decode b_Md_state 87 = .ok (.aload_n 0, 1) := by decide +kernel
theorem d_Md_state_88 : decode b_Md_state 88 = .ok (.getfield 37, 3) := by decide +kernel
theorem d_Md_state_91 : decode b_Md_state 91 = .ok (.getfield 312, 3) := by decide +kernel
theorem d_Md_state_94 : decode b_Md_state 94 = .ok (.ireturn, 1) := by decide +kernel
theorem d_Md_state_95 : decode b_Md_state 95 = .ok (.aload_n 0, 1) := by decide +kernel
theorem d_Md_state_96 : decode b_Md_state 96 = .ok (.getfield 37, 3) := by decide +kernel
theorem d_Md_state_99 : decode b_Md_state 99 = .ok (.getfield 354, 3) := by decide +kernel
theorem d_Md_state_102 : decode b_Md_state 102 = .ok (.ireturn, 1) := by decide +kernel
theorem d_Md_state_103 : decode b_Md_state 103 = .ok (.aload_n 0, 1) := by decide +kernel
theorem d_Md_state_104 : decode b_Md_state 104 = .ok (.invokevirtual 456, 3) := by decide +kernel
theorem d_Md_state_107 : decode b_Md_state 107 = .ok (.ireturn, 1) := by decide +kernel
theorem d_Md_state_108 : decode b_Md_state 108 = .ok (.aload_n 0, 1) := by decide +kernel
theorem d_Md_state_109 : decode b_Md_state 109 = .ok (.getfield 328, 3) := by decide +kernel
theorem d_Md_state_112 : decode b_Md_state 112 = .ok (.aload_n 0, 1) := by decide +kernel
theorem d_Md_state_113 : decode b_Md_state 113 = .ok (.getfield 37, 3) := by decide +kernel
theorem d_Md_state_116 : decode b_Md_state 116 = .ok (.getfield 354, 3) := by decide +kernel
theorem d_Md_state_119 : decode b_Md_state 119 = .ok (.iadd, 1) := by decide +kernel
theorem d_Md_state_120 : decode b_Md_state 120 = .ok (.ireturn, 1) := by decide +kernel
theorem d_Md_state_121 : decode b_Md_state 121 = .ok (.aload_n 0, 1) := by decide +kernel
theorem d_Md_state_122 : decode b_Md_state 122 = .ok (.getfield 674, 3) := by decide +kernel
theorem d_Md_state_125 : decode b_Md_state 125 = .ok (.ireturn, 1) := by decide +kernel
theorem d_Md_state_126 : decode b_Md_state 126 = .ok (.aload_n 0, 1) := by decide +kernel
theorem d_Md_state_127 : decode b_Md_state 127 = .ok (.getfield 296, 3) := by decide +kernel
theorem d_Md_state_130 : decode b_Md_state 130 = .ok (.ireturn, 1) := by decide +kernel
theorem d_Md_state_131 : decode b_Md_state 131 = .ok (.sipush (-1000), 3) := by decide +kernel
theorem d_Md_state_134 : decode b_Md_state 134 = .ok (.ireturn, 1) := by decide +kernel
theorem d_Md_survey_0 : decode b_Md_survey 0 = .ok (.aload_n 0, 1) := by decide +kernel
theorem d_Md_survey_1 : decode b_Md_survey 1 = .ok (.invokevirtual 339, 3) := by decide +kernel
theorem d_Md_survey_4 : decode b_Md_survey 4 = .ok (.aload_n 0, 1) := by decide +kernel
theorem d_Md_survey_5 : decode b_Md_survey 5 = .ok (.invokevirtual 342, 3) := by decide +kernel
theorem d_Md_survey_8 : decode b_Md_survey 8 = .ok (.aload_n 0, 1) := by decide +kernel
theorem d_Md_survey_9 : decode b_Md_survey 9 = .ok (.invokevirtual 345, 3) := by decide +kernel
theorem d_Md_survey_12 : decode b_Md_survey 12 = .ok (.return_, 1) := by decide +kernel
theorem d_Md_turn_0 : decode b_Md_turn 0 = .ok (.aload_n 0, 1) := by decide +kernel
theorem d_Md_turn_1 : decode b_Md_turn 1 = .ok (.iload_n 1, 1) := by decide +kernel
theorem d_Md_turn_2 : decode b_Md_turn 2 = .ok (.invokevirtual 325, 3) := by decide +kernel
theorem d_Md_turn_5 : decode b_Md_turn 5 = .ok (.istore_n 2, 1) := by decide +kernel
theorem d_Md_turn_6 : decode b_Md_turn 6 = .ok (.iload_n 2, 1) := by decide +kernel
theorem d_Md_turn_7 : decode b_Md_turn 7 = .ok (.bipush (-4), 2) := by decide +kernel
theorem d_Md_turn_9 : decode b_Md_turn 9 = .ok (.iand, 1) := by decide +kernel
theorem d_Md_turn_10 : decode b_Md_turn 10 = .ok (.iload_n 2, 1) := by decide +kernel
theorem d_Md_turn_11 : decode b_Md_turn 11 = .ok (.iconst 3, 1) := by decide +kernel
theorem d_Md_turn_12 : decode b_Md_turn 12 = .ok (.iadd, 1) := by decide +kernel
theorem d_Md_turn_13 : decode b_Md_turn 13 = .ok (.iconst 3, 1) := by decide +kernel
theorem d_Md_turn_14 : decode b_Md_turn 14 = .ok (.iand, 1) := by decide +kernel
theorem d_Md_turn_15 : decode b_Md_turn 15 = .ok (.ior, 1) := by decide +kernel
theorem d_Md_turn_16 : decode b_Md_turn 16 = .ok (.istore_n 3, 1) := by decide +kernel
theorem d_Md_turn_17 : decode b_Md_turn 17 = .ok (.aload_n 0, 1) := by decide +kernel
theorem d_Md_turn_18 : decode b_Md_turn 18 = .ok (.getfield 81, 3) := by decide +kernel
theorem d_Md_turn_21 : decode b_Md_turn 21 = .ok (.iload_n 3, 1) := by decide +kernel
theorem d_Md_turn_22 : decode b_Md_turn 22 = .ok (.iaload, 1) := by decide +kernel
theorem d_Md_turn_23 : decode b_Md_turn 23 = .ok (.istore 4, 2) := by decide +kernel
theorem d_Md_turn_25 : decode b_Md_turn 25 = .ok (.iconst 2, 1) := by decide +kernel
theorem d_Md_turn_26 : decode b_Md_turn 26 = .ok (.iload 4, 2) := by decide +kernel
theorem d_Md_turn_28 : decode b_Md_turn 28 = .ok (.imul, 1) := by decide +kernel
theorem d_Md_turn_29 : decode b_Md_turn 29 = .ok (.aload_n 0, 1) := by decide +kernel
theorem d_Md_turn_30 : decode b_Md_turn 30 = .ok (.getfield 69, 3) := by decide +kernel
theorem d_Md_turn_33 : decode b_Md_turn 33 = .ok (.iload 4, 2) := by decide +kernel
theorem d_Md_turn_35 : decode b_Md_turn 35 = .ok (.iaload, 1) := by decide +kernel
theorem d_Md_turn_36 : decode b_Md_turn 36 = .ok (.iload_n 3, 1) := by decide +kernel
theorem d_Md_turn_37 : decode b_Md_turn 37 = .ok (.if_icmp .ne 7, 3) := by decide +kernel
theorem d_Md_turn_40 : decode b_Md_turn 40 = .ok (.iconst 0, 1) := by decide +kernel
theorem d_Md_turn_41 : decode b_Md_turn 41 = .ok (.goto 4, 3) := by decide +kernel
theorem d_Md_turn_44 : decode b_Md_turn 44 = .ok (.iconst 1, 1) := by decide +kernel
theorem d_Md_turn_45 : decode b_Md_turn 45 = .ok (.iadd, 1) := by decide +kernel
theorem d_Md_turn_46 : decode b_Md_turn 46 = .ok (.ireturn, 1) := by decide +kernel
theorem d_Md_turnOver_0 : decode b_Md_turnOver 0 = .ok (.aload_n 0, 1) := by decide +kernel
theorem d_Md_turnOver_1 : decode b_Md_turnOver 1 = .ok (.getfield 395, 3) := by decide +kernel
theorem d_Md_turnOver_4 : decode b_Md_turnOver 4 = .ok (.istore_n 2, 1) := by decide +kernel
theorem d_Md_turnOver_5 : decode b_Md_turnOver 5 = .ok (.iconst 1, 1) := by decide +kernel
theorem d_Md_turnOver_6 : decode b_Md_turnOver 6 = .ok (.istore_n 3, 1) := by decide +kernel
theorem d_Md_turnOver_7 : decode b_Md_turnOver 7 = .ok (.iconst 2, 1) := by decide +kernel
theorem d_Md_turnOver_8 : decode b_Md_turnOver 8 = .ok (.iload_n 3, 1) := by decide +kernel
theorem d_Md_turnOver_9 : decode b_Md_turnOver 9 = .ok (.imul, 1) := by decide +kernel
theorem d_Md_turnOver_10 : decode b_Md_turnOver 10 = .ok (.iload_n 2, 1) := by decide +kernel
theorem d_Md_turnOver_11 : decode b_Md_turnOver 11 = .ok (.iconst 1, 1) := by decide +kernel
theorem d_Md_turnOver_12 : decode b_Md_turnOver 12 = .ok (.iadd, 1) := by decide +kernel
theorem d_Md_turnOver_13 : decode b_Md_turnOver 13 = .ok (.if_icmp .gt 77, 3) := by decide +kernel
theorem d_Md_turnOver_16 : decode b_Md_turnOver 16 = .ok (.aload_n 0, 1) := by decide +kernel
theorem d_Md_turnOver_17 : decode b_Md_turnOver 17 = .ok (.getfield 403, 3) := by decide +kernel
theorem d_Md_turnOver_20 : decode b_Md_turnOver 20 = .ok (.bipush 9, 2) := by decide +kernel
theorem d_Md_turnOver_22 : decode b_Md_turnOver 22 = .ok (.iload_n 1, 1) := by decide +kernel
theorem d_Md_turnOver_23 : decode b_Md_turnOver 23 = .ok (.imul, 1) := by decide +kernel
theorem d_Md_turnOver_24 : decode b_Md_turnOver 24 = .ok (.iload_n 3, 1) := by decide +kernel
theorem d_Md_turnOver_25 : decode b_Md_turnOver 25 = .ok (.iadd, 1) := by decide +kernel
theorem d_Md_turnOver_26 : decode b_Md_turnOver 26 = .ok (.iaload, 1) := by decide +kernel
theorem d_Md_turnOver_27 : decode b_Md_turnOver 27 = .ok (.istore 4, 2) := by decide +kernel
theorem d_Md_turnOver_29 : decode b_Md_turnOver 29 = .ok (.aload_n 0, 1) := by decide +kernel
theorem d_Md_turnOver_30 : decode b_Md_turnOver 30 = .ok (.getfield 403, 3) := by decide +kernel
theorem d_Md_turnOver_33 : decode b_Md_turnOver 33 = .ok (.bipush 9, 2) := by decide +kernel
theorem d_Md_turnOver_35 : decode b_Md_turnOver 35 = .ok (.iload_n 1, 1) := by decide +kernel
theorem d_Md_turnOver_36 : decode b_Md_turnOver 36 = .ok (.imul, 1) := by decide +kernel
theorem d_Md_turnOver_37 : decode b_Md_turnOver 37 = .ok (.iload_n 2, 1) := by decide +kernel
theorem d_Md_turnOver_38 : decode b_Md_turnOver 38 = .ok (.iadd, 1) := by decide +kernel
theorem d_Md_turnOver_39 : decode b_Md_turnOver 39 = .ok (.iconst 1, 1) := by decide +kernel
theorem d_Md_turnOver_40 : decode b_Md_turnOver 40 = .ok (.iadd, 1) := by decide +kernel
theorem d_Md_turnOver_41 : decode b_Md_turnOver 41 = .ok (.iload_n 3, 1) := by decide +kernel
theorem d_Md_turnOver_42 : decode b_Md_turnOver 42 = .ok (.isub, 1) := by decide +kernel
theorem d_Md_turnOver_43 : decode b_Md_turnOver 43 = .ok (.iaload, 1) := by decide +kernel
theorem d_Md_turnOver_44 : decode b_Md_turnOver 44 = .ok (.istore 5, 2) := by decide +kernel
theorem d_Md_turnOver_46 : decode b_Md_turnOver 46 = .ok (.aload_n 0, 1) := by decide +kernel
theorem d_Md_turnOver_47 : decode b_Md_turnOver 47 = .ok (.getfield 403, 3) := by decide +kernel
theorem d_Md_turnOver_50 : decode b_Md_turnOver 50 = .ok (.bipush 9, 2) := by decide +kernel
theorem d_Md_turnOver_52 : decode b_Md_turnOver 52 = .ok (.iload_n 1, 1) := by decide +kernel
theorem d_Md_turnOver_53 : decode b_Md_turnOver 53 = .ok (.imul, 1) := by decide +kernel
theorem d_Md_turnOver_54 : decode b_Md_turnOver 54 = .ok (.iload_n 3, 1) := by decide +kernel
theorem d_Md_turnOver_55 : decode b_Md_turnOver 55 = .ok (.iadd, 1) := by decide +kernel
theorem d_Md_turnOver_56 : decode b_Md_turnOver 56 = .ok (.iload_n 2, 1) := by decide +kernel
theorem d_Md_turnOver_57 : decode b_Md_turnOver 57 = .ok (.iconst 1, 1) := by decide +kernel
theorem d_Md_turnOver_58 : decode b_Md_turnOver 58 = .ok (.iadd, 1) := by decide +kernel
theorem d_Md_turnOver_59 : decode b_Md_turnOver 59 = .ok (.iload 5, 2) := by decide +kernel
theorem d_Md_turnOver_61 : decode b_Md_turnOver 61 = .ok (.isub, 1) := by decide +kernel
theorem d_Md_turnOver_62 : decode b_Md_turnOver 62 = .ok (.iastore, 1) := by decide +kernel
theorem d_Md_turnOver_63 : decode b_Md_turnOver 63 = .ok (.aload_n 0, 1) := by decide +kernel
theorem d_Md_turnOver_64 : decode b_Md_turnOver 64 = .ok (.getfield 403, 3) := by decide +kernel
theorem d_Md_turnOver_67 : decode b_Md_turnOver 67 = .ok (.bipush 9, 2) := by decide +kernel
theorem d_Md_turnOver_69 : decode b_Md_turnOver 69 = .ok (.iload_n 1, 1) := by decide +kernel
theorem d_Md_turnOver_70 : decode b_Md_turnOver 70 = .ok (.imul, 1) := by decide +kernel
theorem d_Md_turnOver_71 : decode b_Md_turnOver 71 = .ok (.iload_n 2, 1) := by decide +kernel
theorem d_Md_turnOver_72 : decode b_Md_turnOver 72 = .ok (.iadd, 1) := by decide +kernel
theorem d_Md_turnOver_73 : decode b_Md_turnOver 73 = .ok (.iconst 1, 1) := by decide +kernel
theorem d_Md_turnOver_74 : decode b_Md_turnOver 74 = .ok (.iadd, 1) := by decide +kernel
theorem d_Md_turnOver_75 : decode b_Md_turnOver 75 = .ok (.iload_n 3, 1) := by decide +kernel
theorem d_Md_turnOver_76 : decode b_Md_turnOver 76 = .ok (.isub, 1) := by decide +kernel
theorem d_Md_turnOver_77 : decode b_Md_turnOver 77 = .ok (.iload_n 2, 1) := by decide +kernel
theorem d_Md_turnOver_78 : decode b_Md_turnOver 78 = .ok (.iconst 1, 1) := by decide +kernel
theorem d_Md_turnOver_79 : decode b_Md_turnOver 79 = .ok (.iadd, 1) := by decide +kernel
theorem d_Md_turnOver_80 : decode b_Md_turnOver 80 = .ok (.iload 4, 2) := by decide +kernel
theorem d_Md_turnOver_82 : decode b_Md_turnOver 82 = .ok (.isub, 1) := by decide +kernel
theorem d_Md_turnOver_83 : decode b_Md_turnOver 83 = .ok (.iastore, 1) := by decide +kernel
theorem d_Md_turnOver_84 : decode b_Md_turnOver 84 = .ok (.iinc 3 1, 3) := by decide +kernel
theorem d_Md_turnOver_87 : decode b_Md_turnOver 87 = .ok (.goto (-80), 3) := by decide +kernel
theorem d_Md_turnOver_90 : decode b_Md_turnOver 90 = .ok (.return_, 1) := by decide +kernel
theorem d_Md_turned_0 : decode b_Md_turned 0 = .ok (.iconst 0, 1) := by decide +kernel
theorem d_Md_turned_1 : decode b_Md_turned 1 = .ok (.istore_n 1, 1) := by decide +kernel
theorem d_Md_turned_2 : decode b_Md_turned 2 = .ok (.iconst 0, 1) := by decide +kernel
theorem d_Md_turned_3 : decode b_Md_turned 3 = .ok (.istore_n 2, 1) := by decide +kernel
theorem d_Md_turned_4 : decode b_Md_turned 4 = .ok (.iload_n 2, 1) := by decide +kernel
theorem d_Md_turned_5 : decode b_Md_turned 5 = .ok (.iconst 4, 1) := by decide +kernel
theorem d_Md_turned_6 : decode b_Md_turned 6 = .ok (.aload_n 0, 1) := by decide +kernel
theorem d_Md_turned_7 : decode b_Md_turned 7 = .ok (.getfield 37, 3) := by decide +kernel
theorem d_Md_turned_10 : decode b_Md_turned 10 = .ok (.getfield 312, 3) := by decide +kernel
theorem d_Md_turned_13 : decode b_Md_turned 13 = .ok (.imul, 1) := by decide +kernel
theorem d_Md_turned_14 : decode b_Md_turned 14 = .ok (.if_icmp .ge 43, 3) := by decide +kernel
theorem d_Md_turned_17 : decode b_Md_turned 17 = .ok (.aload_n 0, 1) := by decide +kernel
theorem d_Md_turned_18 : decode b_Md_turned 18 = .ok (.getfield 37, 3) := by decide +kernel
theorem d_Md_turned_21 : decode b_Md_turned 21 = .ok (.getfield 318, 3) := by decide +kernel
theorem d_Md_turned_24 : decode b_Md_turned 24 = .ok (.iload_n 2, 1) := by decide +kernel
theorem d_Md_turned_25 : decode b_Md_turned 25 = .ok (.iaload, 1) := by decide +kernel
theorem d_Md_turned_26 : decode b_Md_turned 26 = .ok (.istore_n 3, 1) := by decide +kernel
theorem d_Md_turned_27 : decode b_Md_turned 27 = .ok (.aload_n 0, 1) := by decide +kernel
theorem d_Md_turned_28 : decode b_Md_turned 28 = .ok (.iload_n 3, 1) := by decide +kernel
theorem d_Md_turned_29 : decode b_Md_turned 29 = .ok (.invokevirtual 351, 3) := by decide +kernel
theorem d_Md_turned_32 : decode b_Md_turned 32 = .ok (.iconst 1, 1) := by decide +kernel
theorem d_Md_turned_33 : decode b_Md_turned 33 = .ok (.if_icmp .eq 16, 3) := by decide +kernel
theorem d_Md_turned_36 : decode b_Md_turned 36 = .ok (.iload_n 1, 1) := by decide +kernel
theorem d_Md_turned_37 : decode b_Md_turned 37 = .ok (.ifCond .eq 8, 3) := by decide +kernel
theorem d_Md_turned_40 : decode b_Md_turned 40 = .ok (.iload_n 3, 1) := by decide +kernel
theorem d_Md_turned_41 : decode b_Md_turned 41 = .ok (.iload_n 1, 1) := by decide +kernel
theorem d_Md_turned_42 : decode b_Md_turned 42 = .ok (.if_icmp .ge 7, 3) := by decide +kernel
theorem d_Md_turned_45 : decode b_Md_turned 45 = .ok (.iload_n 3, 1) := by decide +kernel
