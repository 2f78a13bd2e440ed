theorem d_Di_joinAt_18 : decode b_Di_joinAt 18 = .ok (.if_icmp .ne 16, 3) := by decide +kernel
theorem d_Di_joinAt_34 : decode b_Di_joinAt 34 = .ok (.aload_n 0, 1) := by decide +kernel
theorem d_Di_joinAt_35 : decode b_Di_joinAt 35 = .ok (.iload_n 3, 1) := by decide +kernel
theorem d_Di_joinAt_36 : decode b_Di_joinAt 36 = .ok (.iload 4, 2) := by decide +kernel
theorem d_Di_joinAt_38 : decode b_Di_joinAt 38 = .ok (.invokestatic 100, 3) := by decide +kernel
theorem d_Di_joinAt_41 : decode b_Di_joinAt 41 = .ok (.iload_n 3, 1) := by decide +kernel
theorem d_Di_joinAt_42 : decode b_Di_joinAt 42 = .ok (.iload 4, 2) := by decide +kernel
theorem d_Di_joinAt_44 : decode b_Di_joinAt 44 = .ok (.invokestatic 106, 3) := by decide +kernel
theorem d_Di_joinAt_47 : decode b_Di_joinAt 47 = .ok (.invokevirtual 109, 3) := by decide +kernel
theorem d_Di_joinAt_50 : decode b_Di_joinAt 50 = .ok (.return_, 1) := by decide +kernel
theorem d_Di_joinAt_21 : decode b_Di_joinAt 21 = .ok (.aload_n 0, 1) := by decide +kernel
theorem d_Di_joinAt_22 : decode b_Di_joinAt 22 = .ok (.dup, 1) := by decide +kernel
theorem d_Di_joinAt_23 : decode b_Di_joinAt 23 = .ok (.getfield 61, 3) := by decide +kernel
theorem d_Di_joinAt_26 : decode b_Di_joinAt 26 = .ok (.iconst 1, 1) := by decide +kernel
theorem d_Di_joinAt_27 : decode b_Di_joinAt 27 = .ok (.iadd, 1) := by decide +kernel
theorem d_Di_joinAt_28 : decode b_Di_joinAt 28 = .ok (.putfield 61, 3) := by decide +kernel
theorem d_Di_joinAt_31 : decode b_Di_joinAt 31 = .ok (.goto 19, 3) := by decide +kernel
theorem d_Sh_fillArc_12 : decode b_Sh_fillArc 12 = .ok (.iload 4, 2) := by decide +kernel
theorem d_Sh_fillArc_14 : decode b_Sh_fillArc 14 = .ok (.aload_n 0, 1) := by decide +kernel
theorem d_Sh_fillArc_15 : decode b_Sh_fillArc 15 = .ok (.getfield 48, 3) := by decide +kernel
theorem d_Sh_fillArc_18 : decode b_Sh_fillArc 18 = .ok (.if_icmp .ge 34, 3) := by decide +kernel
theorem d_Sh_fillArc_52 : decode b_Sh_fillArc 52 = .ok (.return_, 1) := by decide +kernel
theorem d_Sh_fillArc_21 : decode b_Sh_fillArc 21 = .ok (.aload_n 0, 1) := by decide +kernel
theorem d_Sh_fillArc_22 : decode b_Sh_fillArc 22 = .ok (.getfield 21, 3) := by decide +kernel
theorem d_Sh_fillArc_25 : decode b_Sh_fillArc 25 = .ok (.iload_n 3, 1) := by decide +kernel
theorem d_Sh_fillArc_26 : decode b_Sh_fillArc 26 = .ok (.iaload, 1) := by decide +kernel
theorem d_Sh_fillArc_27 : decode b_Sh_fillArc 27 = .ok (.invokestatic 114, 3) := by decide +kernel
theorem d_Sh_fillArc_30 : decode b_Sh_fillArc 30 = .ok (.ifCond .eq 22, 3) := by decide +kernel
theorem d_Sh_fillArc_33 : decode b_Sh_fillArc 33 = .ok (.aload_n 0, 1) := by decide +kernel
theorem d_Sh_fillArc_34 : decode b_Sh_fillArc 34 = .ok (.iload_n 3, 1) := by decide +kernel
theorem d_Sh_fillArc_35 : decode b_Sh_fillArc 35 = .ok (.invokevirtual 105, 3) := by decide +kernel
theorem d_Sh_fillArc_38 : decode b_Sh_fillArc 38 = .ok (.istore_n 3, 1) := by decide +kernel
theorem d_Sh_fillArc_39 : decode b_Sh_fillArc 39 = .ok (.aload_n 0, 1) := by decide +kernel
theorem d_Sh_fillArc_40 : decode b_Sh_fillArc 40 = .ok (.getfield 30, 3) := by decide +kernel
theorem d_Sh_fillArc_43 : decode b_Sh_fillArc 43 = .ok (.iload_n 3, 1) := by decide +kernel
theorem d_Sh_fillArc_44 : decode b_Sh_fillArc 44 = .ok (.iload_n 2, 1) := by decide +kernel
theorem d_Sh_fillArc_45 : decode b_Sh_fillArc 45 = .ok (.iastore, 1) := by decide +kernel
theorem d_Sh_fillArc_46 : decode b_Sh_fillArc 46 = .ok (.iinc 4 1, 3) := by decide +kernel
theorem d_Sh_fillArc_49 : decode b_Sh_fillArc 49 = .ok (.goto (-37), 3) := by decide +kernel
theorem d_Sh_fillArc_0 : decode b_Sh_fillArc 0 = .ok (.iload_n 1, 1) := by decide +kernel
theorem d_Sh_fillArc_1 : decode b_Sh_fillArc 1 = .ok (.istore_n 3, 1) := by decide +kernel
theorem d_Sh_fillArc_2 : decode b_Sh_fillArc 2 = .ok (.aload_n 0, 1) := by decide +kernel
theorem d_Sh_fillArc_3 : decode b_Sh_fillArc 3 = .ok (.getfield 30, 3) := by decide +kernel
theorem d_Sh_fillArc_6 : decode b_Sh_fillArc 6 = .ok (.iload_n 3, 1) := by decide +kernel
theorem d_Sh_fillArc_7 : decode b_Sh_fillArc 7 = .ok (.iload_n 2, 1) := by decide +kernel
theorem d_Sh_fillArc_8 : decode b_Sh_fillArc 8 = .ok (.iastore, 1) := by decide +kernel
theorem d_Sh_fillArc_9 : decode b_Sh_fillArc 9 = .ok (.iconst 0, 1) := by decide +kernel
theorem d_Sh_fillArc_10 : decode b_Sh_fillArc 10 = .ok (.istore 4, 2) := by decide +kernel
theorem d_Sh_seifertRounds_117 : decode b_Sh_seifertRounds 117 = .ok (.iinc 3 1, 3) := by decide +kernel
theorem d_Sh_seifertRounds_120 : decode b_Sh_seifertRounds 120 = .ok (.goto (-108), 3) := by decide +kernel
theorem d_Sh_seifertRounds_114 : decode b_Sh_seifertRounds 114 = .ok (.iinc 2 1, 3) := by decide +kernel
theorem d_Sh_seifertRounds_105 : decode b_Sh_seifertRounds 105 = .ok (.iaload, 1) := by decide +kernel
theorem d_Sh_seifertRounds_106 : decode b_Sh_seifertRounds 106 = .ok (.istore 4, 2) := by decide +kernel
theorem d_Sh_seifertRounds_108 : decode b_Sh_seifertRounds 108 = .ok (.iinc 5 1, 3) := by decide +kernel
theorem d_Sh_seifertRounds_111 : decode b_Sh_seifertRounds 111 = .ok (.goto (-76), 3) := by decide +kernel
theorem d_Sh_seifertRounds_35 : decode b_Sh_seifertRounds 35 = .ok (.iload 5, 2) := by decide +kernel
theorem d_Sh_seifertRounds_37 : decode b_Sh_seifertRounds 37 = .ok (.aload_n 0, 1) := by decide +kernel
theorem d_Sh_seifertRounds_38 : decode b_Sh_seifertRounds 38 = .ok (.getfield 48, 3) := by decide +kernel
theorem d_Sh_seifertRounds_41 : decode b_Sh_seifertRounds 41 = .ok (.if_icmp .ge 73, 3) := by decide +kernel
theorem d_Sh_seifertRounds_44 : decode b_Sh_seifertRounds 44 = .ok (.aload_n 0, 1) := by decide +kernel
theorem d_Sh_seifertRounds_45 : decode b_Sh_seifertRounds 45 = .ok (.getfield 45, 3) := by decide +kernel
theorem d_Sh_seifertRounds_48 : decode b_Sh_seifertRounds 48 = .ok (.iload 4, 2) := by decide +kernel
theorem d_Sh_seifertRounds_50 : decode b_Sh_seifertRounds 50 = .ok (.iaload, 1) := by decide +kernel
theorem d_Sh_seifertRounds_51 : decode b_Sh_seifertRounds 51 = .ok (.ifCond .ne 63, 3) := by decide +kernel
theorem d_Sh_seifertRounds_54 : decode b_Sh_seifertRounds 54 = .ok (.aload_n 0, 1) := by decide +kernel
theorem d_Sh_seifertRounds_55 : decode b_Sh_seifertRounds 55 = .ok (.getfield 45, 3) := by decide +kernel
theorem d_Sh_seifertRounds_58 : decode b_Sh_seifertRounds 58 = .ok (.iload 4, 2) := by decide +kernel
theorem d_Sh_seifertRounds_60 : decode b_Sh_seifertRounds 60 = .ok (.iconst 1, 1) := by decide +kernel
theorem d_Sh_seifertRounds_61 : decode b_Sh_seifertRounds 61 = .ok (.iastore, 1) := by decide +kernel
theorem d_Sh_seifertRounds_62 : decode b_Sh_seifertRounds 62 = .ok (.aload_n 0, 1) := by decide +kernel
theorem d_Sh_seifertRounds_63 : decode b_Sh_seifertRounds 63 = .ok (.getfield 21, 3) := by decide +kernel
theorem d_Sh_seifertRounds_66 : decode b_Sh_seifertRounds 66 = .ok (.iload 4, 2) := by decide +kernel
theorem d_Sh_seifertRounds_68 : decode b_Sh_seifertRounds 68 = .ok (.iaload, 1) := by decide +kernel
theorem d_Sh_seifertRounds_69 : decode b_Sh_seifertRounds 69 = .ok (.iconst 2, 1) := by decide +kernel
theorem d_Sh_seifertRounds_70 : decode b_Sh_seifertRounds 70 = .ok (.ishr, 1) := by decide +kernel
theorem d_Sh_seifertRounds_71 : decode b_Sh_seifertRounds 71 = .ok (.istore 6, 2) := by decide +kernel
theorem d_Sh_seifertRounds_73 : decode b_Sh_seifertRounds 73 = .ok (.aload_n 0, 1) := by decide +kernel
theorem d_Sh_seifertRounds_74 : decode b_Sh_seifertRounds 74 = .ok (.getfield 24, 3) := by decide +kernel
theorem d_Sh_seifertRounds_77 : decode b_Sh_seifertRounds 77 = .ok (.aload_n 0, 1) := by decide +kernel
theorem d_Sh_seifertRounds_78 : decode b_Sh_seifertRounds 78 = .ok (.getfield 21, 3) := by decide +kernel
theorem d_Sh_seifertRounds_81 : decode b_Sh_seifertRounds 81 = .ok (.iload 4, 2) := by decide +kernel
theorem d_Sh_seifertRounds_83 : decode b_Sh_seifertRounds 83 = .ok (.iaload, 1) := by decide +kernel
theorem d_Sh_seifertRounds_84 : decode b_Sh_seifertRounds 84 = .ok (.invokestatic 114, 3) := by decide +kernel
theorem d_Sh_seifertRounds_87 : decode b_Sh_seifertRounds 87 = .ok (.ifCond .eq 12, 3) := by decide +kernel
theorem d_Sh_seifertRounds_99 : decode b_Sh_seifertRounds 99 = .ok (.aload_n 1, 1) := by decide +kernel
theorem d_Sh_seifertRounds_100 : decode b_Sh_seifertRounds 100 = .ok (.iload 6, 2) := by decide +kernel
theorem d_Sh_seifertRounds_102 : decode b_Sh_seifertRounds 102 = .ok (.invokevirtual 126, 3) := by decide +kernel
theorem d_Sh_seifertRounds_90 : decode b_Sh_seifertRounds 90 = .ok (.iconst 4, 1) := by decide +kernel
theorem d_Sh_seifertRounds_91 : decode b_Sh_seifertRounds 91 = .ok (.iload 6, 2) := by decide +kernel
theorem d_Sh_seifertRounds_93 : decode b_Sh_seifertRounds 93 = .ok (.imul, 1) := by decide +kernel
theorem d_Sh_seifertRounds_94 : decode b_Sh_seifertRounds 94 = .ok (.iconst 2, 1) := by decide +kernel
theorem d_Sh_seifertRounds_95 : decode b_Sh_seifertRounds 95 = .ok (.iadd, 1) := by decide +kernel
theorem d_Sh_seifertRounds_96 : decode b_Sh_seifertRounds 96 = .ok (.goto 9, 3) := by decide +kernel
theorem d_Sh_seifertRounds_12 : decode b_Sh_seifertRounds 12 = .ok (.iload_n 3, 1) := by decide +kernel
theorem d_Sh_seifertRounds_13 : decode b_Sh_seifertRounds 13 = .ok (.aload_n 0, 1) := by decide +kernel
theorem d_Sh_seifertRounds_14 : decode b_Sh_seifertRounds 14 = .ok (.getfield 48, 3) := by decide +kernel
theorem d_Sh_seifertRounds_17 : decode b_Sh_seifertRounds 17 = .ok (.if_icmp .ge 106, 3) := by decide +kernel
theorem d_Sh_seifertRounds_123 : decode b_Sh_seifertRounds 123 = .ok (.iload_n 2, 1) := by decide +kernel
theorem d_Sh_seifertRounds_124 : decode b_Sh_seifertRounds 124 = .ok (.ireturn, 1) := by decide +kernel
theorem d_Sh_seifertRounds_20 : decode b_Sh_seifertRounds 20 = .ok (.aload_n 0, 1) := by decide +kernel
theorem d_Sh_seifertRounds_21 : decode b_Sh_seifertRounds 21 = .ok (.getfield 45, 3) := by decide +kernel
theorem d_Sh_seifertRounds_24 : decode b_Sh_seifertRounds 24 = .ok (.iload_n 3, 1) := by decide +kernel
theorem d_Sh_seifertRounds_25 : decode b_Sh_seifertRounds 25 = .ok (.iaload, 1) := by decide +kernel
theorem d_Sh_seifertRounds_26 : decode b_Sh_seifertRounds 26 = .ok (.ifCond .ne 91, 3) := by decide +kernel
theorem d_Sh_seifertRounds_29 : decode b_Sh_seifertRounds 29 = .ok (.iload_n 3, 1) := by decide +kernel
theorem d_Sh_seifertRounds_30 : decode b_Sh_seifertRounds 30 = .ok (.istore 4, 2) := by decide +kernel
theorem d_Sh_seifertRounds_32 : decode b_Sh_seifertRounds 32 = .ok (.iconst 0, 1) := by decide +kernel
theorem d_Sh_seifertRounds_33 : decode b_Sh_seifertRounds 33 = .ok (.istore 5, 2) := by decide +kernel
theorem d_Sh_seifertRounds_0 : decode b_Sh_seifertRounds 0 = .ok (.iconst 0, 1) := by decide +kernel
theorem d_Sh_seifertRounds_1 : decode b_Sh_seifertRounds 1 = .ok (.istore_n 2, 1) := by decide +kernel
theorem d_Sh_seifertRounds_2 : decode b_Sh_seifertRounds 2 = .ok (.aload_n 0, 1) := by decide +kernel
theorem d_Sh_seifertRounds_3 : decode b_Sh_seifertRounds 3 = .ok (.getfield 45, 3) := by decide +kernel
theorem d_Sh_seifertRounds_6 : decode b_Sh_seifertRounds 6 = .ok (.iconst 0, 1) := by decide +kernel
theorem d_Sh_seifertRounds_7 : decode b_Sh_seifertRounds 7 = .ok (.invokestatic 96, 3) := by decide +kernel
theorem d_Sh_seifertRounds_10 : decode b_Sh_seifertRounds 10 = .ok (.iconst 0, 1) := by decide +kernel
theorem d_Sh_seifertRounds_11 : decode b_Sh_seifertRounds 11 = .ok (.istore_n 3, 1) := by decide +kernel
theorem d_Di_sumOfSigns_12 : decode b_Di_sumOfSigns 12 = .ok (.iload_n 1, 1) := by decide +kernel
theorem d_Di_sumOfSigns_13 : decode b_Di_sumOfSigns 13 = .ok (.aload_n 0, 1) := by decide +kernel
theorem d_Di_sumOfSigns_14 : decode b_Di_sumOfSigns 14 = .ok (.getfield 9, 3) := by decide +kernel
theorem d_Di_sumOfSigns_17 : decode b_Di_sumOfSigns 17 = .ok (.iload_n 2, 1) := by decide +kernel
theorem d_Di_sumOfSigns_18 : decode b_Di_sumOfSigns 18 = .ok (.iaload, 1) := by decide +kernel
theorem d_Di_sumOfSigns_19 : decode b_Di_sumOfSigns 19 = .ok (.iadd, 1) := by decide +kernel
theorem d_Di_sumOfSigns_20 : decode b_Di_sumOfSigns 20 = .ok (.istore_n 1, 1) := by decide +kernel
theorem d_Di_sumOfSigns_21 : decode b_Di_sumOfSigns 21 = .ok (.iinc 2 1, 3) := by decide +kernel
theorem d_Di_sumOfSigns_24 : decode b_Di_sumOfSigns 24 = .ok (.goto (-20), 3) := by decide +kernel
theorem d_Sh_isAlternating_2 : decode b_Sh_isAlternating 2 = .ok (.iload_n 1, 1) := by decide +kernel
theorem d_Sh_isAlternating_3 : decode b_Sh_isAlternating 3 = .ok (.aload_n 0, 1) := by decide +kernel
theorem d_Sh_isAlternating_4 : decode b_Sh_isAlternating 4 = .ok (.getfield 48, 3) := by decide +kernel
theorem d_Sh_isAlternating_7 : decode b_Sh_isAlternating 7 = .ok (.if_icmp .ge 32, 3) := by decide +kernel
theorem d_Sh_isAlternating_39 : decode b_Sh_isAlternating 39 = .ok (.iconst 1, 1) := by decide +kernel
theorem d_Sh_isAlternating_40 : decode b_Sh_isAlternating 40 = .ok (.ireturn, 1) := by decide +kernel
theorem d_Sh_isAlternating_10 : decode b_Sh_isAlternating 10 = .ok (.aload_n 0, 1) := by decide +kernel
theorem d_Sh_isAlternating_11 : decode b_Sh_isAlternating 11 = .ok (.getfield 18, 3) := by decide +kernel
theorem d_Sh_isAlternating_14 : decode b_Sh_isAlternating 14 = .ok (.iload_n 1, 1) := by decide +kernel
theorem d_Sh_isAlternating_15 : decode b_Sh_isAlternating 15 = .ok (.iaload, 1) := by decide +kernel
theorem d_Sh_isAlternating_16 : decode b_Sh_isAlternating 16 = .ok (.invokestatic 114, 3) := by decide +kernel
theorem d_Sh_isAlternating_19 : decode b_Sh_isAlternating 19 = .ok (.aload_n 0, 1) := by decide +kernel
theorem d_Sh_isAlternating_20 : decode b_Sh_isAlternating 20 = .ok (.getfield 21, 3) := by decide +kernel
theorem d_Sh_isAlternating_23 : decode b_Sh_isAlternating 23 = .ok (.iload_n 1, 1) := by decide +kernel
theorem d_Sh_isAlternating_24 : decode b_Sh_isAlternating 24 = .ok (.iaload, 1) := by decide +kernel
theorem d_Sh_isAlternating_25 : decode b_Sh_isAlternating 25 = .ok (.invokestatic 114, 3) := by decide +kernel
theorem d_Sh_isAlternating_28 : decode b_Sh_isAlternating 28 = .ok (.if_icmp .ne 5, 3) := by decide +kernel
theorem d_Sh_isAlternating_33 : decode b_Sh_isAlternating 33 = .ok (.iinc 1 1, 3) := by decide +kernel
theorem d_Sh_isAlternating_36 : decode b_Sh_isAlternating 36 = .ok (.goto (-34), 3) := by decide +kernel
theorem d_Sh_isAlternating_31 : decode b_Sh_isAlternating 31 = .ok (.iconst 0, 1) := by decide +kernel
theorem d_Sh_isAlternating_32 : decode b_Sh_isAlternating 32 = .ok (.ireturn, 1) := by decide +kernel
theorem d_Sh_isAlternating_0 : decode b_Sh_isAlternating 0 = .ok (.iconst 0, 1) := by decide +kernel
theorem d_Sh_isAlternating_1 : decode b_Sh_isAlternating 1 = .ok (.istore_n 1, 1) := by decide +kernel
theorem d_Sh_dartNumber_0 : decode b_Sh_dartNumber 0 = .ok (.aload_n 0, 1) := by decide +kernel
theorem d_Sh_dartNumber_1 : decode b_Sh_dartNumber 1 = .ok (.getfield 15, 3) := by decide +kernel
theorem d_Sh_dartNumber_4 : decode b_Sh_dartNumber 4 = .ok (.iload_n 1, 1) := by decide +kernel
theorem d_Sh_dartNumber_5 : decode b_Sh_dartNumber 5 = .ok (.iconst 1, 1) := by decide +kernel
theorem d_Sh_dartNumber_6 : decode b_Sh_dartNumber 6 = .ok (.ishr, 1) := by decide +kernel
theorem d_Sh_dartNumber_7 : decode b_Sh_dartNumber 7 = .ok (.iaload, 1) := by decide +kernel
theorem d_Sh_dartNumber_8 : decode b_Sh_dartNumber 8 = .ok (.istore_n 2, 1) := by decide +kernel
theorem d_Sh_dartNumber_9 : decode b_Sh_dartNumber 9 = .ok (.iload_n 1, 1) := by decide +kernel
theorem d_Sh_dartNumber_10 : decode b_Sh_dartNumber 10 = .ok (.iconst 1, 1) := by decide +kernel
theorem d_Sh_dartNumber_11 : decode b_Sh_dartNumber 11 = .ok (.iand, 1) := by decide +kernel
theorem d_Sh_dartNumber_12 : decode b_Sh_dartNumber 12 = .ok (.ifCond .ne 7, 3) := by decide +kernel
theorem d_Sh_dartNumber_19 : decode b_Sh_dartNumber 19 = .ok (.iload_n 2, 1) := by decide +kernel
theorem d_Sh_dartNumber_20 : decode b_Sh_dartNumber 20 = .ok (.ineg, 1) := by decide +kernel
theorem d_Sh_dartNumber_21 : decode b_Sh_dartNumber 21 = .ok (.ireturn, 1) := by decide +kernel
theorem d_Sh_dartNumber_15 : decode b_Sh_dartNumber 15 = .ok (.iload_n 2, 1) := by decide +kernel
theorem d_Sh_dartNumber_16 : decode b_Sh_dartNumber 16 = .ok (.goto 5, 3) := by decide +kernel
theorem d_Po_clear_0 : decode b_Po_clear 0 = .ok (.aload_n 0, 1) := by decide +kernel
theorem d_Po_clear_1 : decode b_Po_clear 1 = .ok (.getfield 9, 3) := by decide +kernel
theorem d_Po_clear_4 : decode b_Po_clear 4 = .ok (.lconst 0, 1) := by decide +kernel
theorem d_Po_clear_5 : decode b_Po_clear 5 = .ok (.invokestatic 17, 3) := by decide +kernel
theorem d_Po_clear_8 : decode b_Po_clear 8 = .ok (.aload_n 0, 1) := by decide +kernel
theorem d_Po_clear_9 : decode b_Po_clear 9 = .ok (.iconst 0, 1) := by decide +kernel
theorem d_Po_clear_10 : decode b_Po_clear 10 = .ok (.putfield 23, 3) := by decide +kernel
theorem d_Po_clear_13 : decode b_Po_clear 13 = .ok (.aload_n 0, 1) := by decide +kernel
theorem d_Po_clear_14 : decode b_Po_clear 14 = .ok (.iconst 1, 1) := by decide +kernel
theorem d_Po_clear_15 : decode b_Po_clear 15 = .ok (.putfield 13, 3) := by decide +kernel
theorem d_Po_clear_18 : decode b_Po_clear 18 = .ok (.return_, 1) := by decide +kernel
theorem d_Mi_reach_18 : decode b_Mi_reach 18 = .ok (.iload_n 2, 1) := by decide +kernel
theorem d_Mi_reach_19 : decode b_Mi_reach 19 = .ok (.bipush 10, 2) := by decide +kernel
theorem d_Mi_reach_21 : decode b_Mi_reach 21 = .ok (.if_icmp .ge 21, 3) := by decide +kernel
theorem d_Mi_reach_42 : decode b_Mi_reach 42 = .ok (.return_, 1) := by decide +kernel
theorem d_Mi_reach_24 : decode b_Mi_reach 24 = .ok (.aload_n 0, 1) := by decide +kernel
theorem d_Mi_reach_25 : decode b_Mi_reach 25 = .ok (.getfield 11, 3) := by decide +kernel
theorem d_Mi_reach_28 : decode b_Mi_reach 28 = .ok (.iload_n 1, 1) := by decide +kernel
theorem d_Mi_reach_29 : decode b_Mi_reach 29 = .ok (.bipush 10, 2) := by decide +kernel
theorem d_Mi_reach_31 : decode b_Mi_reach 31 = .ok (.imul, 1) := by decide +kernel
theorem d_Mi_reach_32 : decode b_Mi_reach 32 = .ok (.iload_n 2, 1) := by decide +kernel
theorem d_Mi_reach_33 : decode b_Mi_reach 33 = .ok (.iadd, 1) := by decide +kernel
theorem d_Mi_reach_34 : decode b_Mi_reach 34 = .ok (.iconst 0, 1) := by decide +kernel
theorem d_Mi_reach_35 : decode b_Mi_reach 35 = .ok (.iastore, 1) := by decide +kernel
theorem d_Mi_reach_36 : decode b_Mi_reach 36 = .ok (.iinc 2 1, 3) := by decide +kernel
theorem d_Mi_reach_39 : decode b_Mi_reach 39 = .ok (.goto (-21), 3) := by decide +kernel
theorem d_Mi_reach_0 : decode b_Mi_reach 0 = .ok (.aload_n 0, 1) := by decide +kernel
theorem d_Mi_reach_1 : decode b_Mi_reach 1 = .ok (.getfield 15, 3) := by decide +kernel
theorem d_Mi_reach_4 : decode b_Mi_reach 4 = .ok (.iload_n 1, 1) := by decide +kernel
theorem d_Mi_reach_5 : decode b_Mi_reach 5 = .ok (.iaload, 1) := by decide +kernel
theorem d_Mi_reach_6 : decode b_Mi_reach 6 = .ok (.ifCond .ne 36, 3) := by decide +kernel
theorem d_Mi_reach_9 : decode b_Mi_reach 9 = .ok (.aload_n 0, 1) := by decide +kernel
theorem d_Mi_reach_10 : decode b_Mi_reach 10 = .ok (.getfield 15, 3) := by decide +kernel
theorem d_Mi_reach_13 : decode b_Mi_reach 13 = .ok (.iload_n 1, 1) := by decide +kernel
theorem d_Mi_reach_14 : decode b_Mi_reach 14 = .ok (.iconst 1, 1) := by decide +kernel
theorem d_Mi_reach_15 : decode b_Mi_reach 15 = .ok (.iastore, 1) := by decide +kernel
