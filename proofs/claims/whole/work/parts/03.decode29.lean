theorem d_Sh_labelsArePaired_7 : decode b_Sh_labelsArePaired 7 = .ok (.aload_n 0, 1) := by decide +kernel
theorem d_Sh_labelsArePaired_8 : decode b_Sh_labelsArePaired 8 = .ok (.iload_n 2, 1) := by decide +kernel
theorem d_Sh_labelsArePaired_9 : decode b_Sh_labelsArePaired 9 = .ok (.invokevirtual 75, 3) := by decide +kernel
theorem d_Sh_labelsArePaired_12 : decode b_Sh_labelsArePaired 12 = .ok (.istore_n 3, 1) := by decide +kernel
theorem d_Sh_labelsArePaired_13 : decode b_Sh_labelsArePaired 13 = .ok (.iload_n 2, 1) := by decide +kernel
theorem d_Sh_labelsArePaired_14 : decode b_Sh_labelsArePaired 14 = .ok (.iconst 1, 1) := by decide +kernel
theorem d_Sh_labelsArePaired_15 : decode b_Sh_labelsArePaired 15 = .ok (.iadd, 1) := by decide +kernel
theorem d_Sh_labelsArePaired_16 : decode b_Sh_labelsArePaired 16 = .ok (.iload_n 1, 1) := by decide +kernel
theorem d_Sh_labelsArePaired_17 : decode b_Sh_labelsArePaired 17 = .ok (.if_icmp .ge 14, 3) := by decide +kernel
theorem d_Sh_labelsArePaired_20 : decode b_Sh_labelsArePaired 20 = .ok (.aload_n 0, 1) := by decide +kernel
theorem d_Sh_labelsArePaired_21 : decode b_Sh_labelsArePaired 21 = .ok (.iload_n 2, 1) := by decide +kernel
theorem d_Sh_labelsArePaired_22 : decode b_Sh_labelsArePaired 22 = .ok (.iconst 1, 1) := by decide +kernel
theorem d_Sh_labelsArePaired_23 : decode b_Sh_labelsArePaired 23 = .ok (.iadd, 1) := by decide +kernel
theorem d_Sh_labelsArePaired_24 : decode b_Sh_labelsArePaired 24 = .ok (.invokevirtual 75, 3) := by decide +kernel
theorem d_Sh_labelsArePaired_27 : decode b_Sh_labelsArePaired 27 = .ok (.iload_n 3, 1) := by decide +kernel
theorem d_Sh_labelsArePaired_28 : decode b_Sh_labelsArePaired 28 = .ok (.if_icmp .eq 7, 3) := by decide +kernel
theorem d_Sh_labelsArePaired_35 : decode b_Sh_labelsArePaired 35 = .ok (.iconst 0, 1) := by decide +kernel
theorem d_Di_isOut_18 : decode b_Di_isOut 18 = .ok (.iconst 1, 1) := by decide +kernel
theorem d_Di_isOut_19 : decode b_Di_isOut 19 = .ok (.goto 4, 3) := by decide +kernel
theorem d_Di_isOut_23 : decode b_Di_isOut 23 = .ok (.ireturn, 1) := by decide +kernel
theorem d_Di_isOut_0 : decode b_Di_isOut 0 = .ok (.iload_n 1, 1) := by decide +kernel
theorem d_Di_isOut_1 : decode b_Di_isOut 1 = .ok (.iconst 3, 1) := by decide +kernel
theorem d_Di_isOut_2 : decode b_Di_isOut 2 = .ok (.iand, 1) := by decide +kernel
theorem d_Di_isOut_3 : decode b_Di_isOut 3 = .ok (.iconst 2, 1) := by decide +kernel
theorem d_Di_isOut_4 : decode b_Di_isOut 4 = .ok (.if_icmp .eq 14, 3) := by decide +kernel
theorem d_Di_isOut_7 : decode b_Di_isOut 7 = .ok (.iload_n 1, 1) := by decide +kernel
theorem d_Di_isOut_8 : decode b_Di_isOut 8 = .ok (.aload_n 0, 1) := by decide +kernel
theorem d_Di_isOut_9 : decode b_Di_isOut 9 = .ok (.iload_n 1, 1) := by decide +kernel
theorem d_Di_isOut_10 : decode b_Di_isOut 10 = .ok (.iconst 2, 1) := by decide +kernel
theorem d_Di_isOut_11 : decode b_Di_isOut 11 = .ok (.ishr, 1) := by decide +kernel
theorem d_Di_isOut_12 : decode b_Di_isOut 12 = .ok (.invokevirtual 81, 3) := by decide +kernel
theorem d_Di_isOut_15 : decode b_Di_isOut 15 = .ok (.if_icmp .ne 7, 3) := by decide +kernel
theorem d_Di_isOut_22 : decode b_Di_isOut 22 = .ok (.iconst 0, 1) := by decide +kernel
theorem d_Sh_nextDart_0 : decode b_Sh_nextDart 0 = .ok (.aload_n 0, 1) := by decide +kernel
theorem d_Sh_nextDart_1 : decode b_Sh_nextDart 1 = .ok (.iload_n 1, 1) := by decide +kernel
theorem d_Sh_nextDart_2 : decode b_Sh_nextDart 2 = .ok (.invokevirtual 111, 3) := by decide +kernel
theorem d_Sh_nextDart_5 : decode b_Sh_nextDart 5 = .ok (.istore_n 2, 1) := by decide +kernel
theorem d_Sh_nextDart_6 : decode b_Sh_nextDart 6 = .ok (.iload_n 2, 1) := by decide +kernel
theorem d_Sh_nextDart_7 : decode b_Sh_nextDart 7 = .ok (.bipush (-4), 2) := by decide +kernel
theorem d_Sh_nextDart_9 : decode b_Sh_nextDart 9 = .ok (.iand, 1) := by decide +kernel
theorem d_Sh_nextDart_10 : decode b_Sh_nextDart 10 = .ok (.iload_n 2, 1) := by decide +kernel
theorem d_Sh_nextDart_11 : decode b_Sh_nextDart 11 = .ok (.iconst 3, 1) := by decide +kernel
theorem d_Sh_nextDart_12 : decode b_Sh_nextDart 12 = .ok (.iadd, 1) := by decide +kernel
theorem d_Sh_nextDart_13 : decode b_Sh_nextDart 13 = .ok (.iconst 3, 1) := by decide +kernel
theorem d_Sh_nextDart_14 : decode b_Sh_nextDart 14 = .ok (.iand, 1) := by decide +kernel
theorem d_Sh_nextDart_15 : decode b_Sh_nextDart 15 = .ok (.ior, 1) := by decide +kernel
theorem d_Sh_nextDart_16 : decode b_Sh_nextDart 16 = .ok (.istore_n 3, 1) := by decide +kernel
theorem d_Sh_nextDart_17 : decode b_Sh_nextDart 17 = .ok (.aload_n 0, 1) := by decide +kernel
theorem d_Sh_nextDart_18 : decode b_Sh_nextDart 18 = .ok (.getfield 24, 3) := by decide +kernel
theorem d_Sh_nextDart_21 : decode b_Sh_nextDart 21 = .ok (.iload_n 3, 1) := by decide +kernel
theorem d_Sh_nextDart_22 : decode b_Sh_nextDart 22 = .ok (.iaload, 1) := by decide +kernel
theorem d_Sh_nextDart_23 : decode b_Sh_nextDart 23 = .ok (.istore 4, 2) := by decide +kernel
theorem d_Sh_nextDart_25 : decode b_Sh_nextDart 25 = .ok (.aload_n 0, 1) := by decide +kernel
theorem d_Sh_nextDart_26 : decode b_Sh_nextDart 26 = .ok (.getfield 18, 3) := by decide +kernel
theorem d_Sh_nextDart_29 : decode b_Sh_nextDart 29 = .ok (.iload 4, 2) := by decide +kernel
theorem d_Sh_nextDart_31 : decode b_Sh_nextDart 31 = .ok (.iaload, 1) := by decide +kernel
theorem d_Sh_nextDart_32 : decode b_Sh_nextDart 32 = .ok (.iload_n 3, 1) := by decide +kernel
theorem d_Sh_nextDart_33 : decode b_Sh_nextDart 33 = .ok (.if_icmp .ne 10, 3) := by decide +kernel
theorem d_Sh_nextDart_43 : decode b_Sh_nextDart 43 = .ok (.iconst 2, 1) := by decide +kernel
theorem d_Sh_nextDart_44 : decode b_Sh_nextDart 44 = .ok (.iload 4, 2) := by decide +kernel
theorem d_Sh_nextDart_46 : decode b_Sh_nextDart 46 = .ok (.imul, 1) := by decide +kernel
theorem d_Sh_nextDart_47 : decode b_Sh_nextDart 47 = .ok (.iconst 1, 1) := by decide +kernel
theorem d_Sh_nextDart_48 : decode b_Sh_nextDart 48 = .ok (.iadd, 1) := by decide +kernel
theorem d_Sh_nextDart_49 : decode b_Sh_nextDart 49 = .ok (.ireturn, 1) := by decide +kernel
theorem d_Sh_nextDart_36 : decode b_Sh_nextDart 36 = .ok (.iconst 2, 1) := by decide +kernel
theorem d_Sh_nextDart_37 : decode b_Sh_nextDart 37 = .ok (.iload 4, 2) := by decide +kernel
theorem d_Sh_nextDart_39 : decode b_Sh_nextDart 39 = .ok (.imul, 1) := by decide +kernel
theorem d_Sh_nextDart_40 : decode b_Sh_nextDart 40 = .ok (.goto 9, 3) := by decide +kernel
theorem d_Sh_findComponents_80 : decode b_Sh_findComponents 80 = .ok (.iinc 1 1, 3) := by decide +kernel
theorem d_Sh_findComponents_83 : decode b_Sh_findComponents 83 = .ok (.goto (-73), 3) := by decide +kernel
theorem d_Sh_findComponents_70 : decode b_Sh_findComponents 70 = .ok (.aload_n 0, 1) := by decide +kernel
theorem d_Sh_findComponents_71 : decode b_Sh_findComponents 71 = .ok (.dup, 1) := by decide +kernel
theorem d_Sh_findComponents_72 : decode b_Sh_findComponents 72 = .ok (.getfield 52, 3) := by decide +kernel
theorem d_Sh_findComponents_75 : decode b_Sh_findComponents 75 = .ok (.iconst 1, 1) := by decide +kernel
theorem d_Sh_findComponents_76 : decode b_Sh_findComponents 76 = .ok (.iadd, 1) := by decide +kernel
theorem d_Sh_findComponents_77 : decode b_Sh_findComponents 77 = .ok (.putfield 52, 3) := by decide +kernel
theorem d_Sh_findComponents_31 : decode b_Sh_findComponents 31 = .ok (.iload_n 3, 1) := by decide +kernel
theorem d_Sh_findComponents_32 : decode b_Sh_findComponents 32 = .ok (.aload_n 0, 1) := by decide +kernel
theorem d_Sh_findComponents_33 : decode b_Sh_findComponents 33 = .ok (.getfield 48, 3) := by decide +kernel
theorem d_Sh_findComponents_36 : decode b_Sh_findComponents 36 = .ok (.if_icmp .ge 34, 3) := by decide +kernel
theorem d_Sh_findComponents_39 : decode b_Sh_findComponents 39 = .ok (.aload_n 0, 1) := by decide +kernel
theorem d_Sh_findComponents_40 : decode b_Sh_findComponents 40 = .ok (.getfield 27, 3) := by decide +kernel
theorem d_Sh_findComponents_43 : decode b_Sh_findComponents 43 = .ok (.iload_n 2, 1) := by decide +kernel
theorem d_Sh_findComponents_44 : decode b_Sh_findComponents 44 = .ok (.iaload, 1) := by decide +kernel
theorem d_Sh_findComponents_45 : decode b_Sh_findComponents 45 = .ok (.ifCond .ge 25, 3) := by decide +kernel
theorem d_Sh_findComponents_48 : decode b_Sh_findComponents 48 = .ok (.aload_n 0, 1) := by decide +kernel
theorem d_Sh_findComponents_49 : decode b_Sh_findComponents 49 = .ok (.getfield 27, 3) := by decide +kernel
theorem d_Sh_findComponents_52 : decode b_Sh_findComponents 52 = .ok (.iload_n 2, 1) := by decide +kernel
theorem d_Sh_findComponents_53 : decode b_Sh_findComponents 53 = .ok (.aload_n 0, 1) := by decide +kernel
theorem d_Sh_findComponents_54 : decode b_Sh_findComponents 54 = .ok (.getfield 52, 3) := by decide +kernel
theorem d_Sh_findComponents_57 : decode b_Sh_findComponents 57 = .ok (.iastore, 1) := by decide +kernel
theorem d_Sh_findComponents_58 : decode b_Sh_findComponents 58 = .ok (.aload_n 0, 1) := by decide +kernel
theorem d_Sh_findComponents_59 : decode b_Sh_findComponents 59 = .ok (.iload_n 2, 1) := by decide +kernel
theorem d_Sh_findComponents_60 : decode b_Sh_findComponents 60 = .ok (.invokevirtual 105, 3) := by decide +kernel
theorem d_Sh_findComponents_63 : decode b_Sh_findComponents 63 = .ok (.istore_n 2, 1) := by decide +kernel
theorem d_Sh_findComponents_64 : decode b_Sh_findComponents 64 = .ok (.iinc 3 1, 3) := by decide +kernel
theorem d_Sh_findComponents_67 : decode b_Sh_findComponents 67 = .ok (.goto (-36), 3) := by decide +kernel
theorem d_Sh_findComponents_18 : decode b_Sh_findComponents 18 = .ok (.aload_n 0, 1) := by decide +kernel
theorem d_Sh_findComponents_19 : decode b_Sh_findComponents 19 = .ok (.getfield 27, 3) := by decide +kernel
theorem d_Sh_findComponents_22 : decode b_Sh_findComponents 22 = .ok (.iload_n 1, 1) := by decide +kernel
theorem d_Sh_findComponents_23 : decode b_Sh_findComponents 23 = .ok (.iaload, 1) := by decide +kernel
theorem d_Sh_findComponents_24 : decode b_Sh_findComponents 24 = .ok (.ifCond .ge 56, 3) := by decide +kernel
theorem d_Sh_findComponents_27 : decode b_Sh_findComponents 27 = .ok (.iload_n 1, 1) := by decide +kernel
theorem d_Sh_findComponents_28 : decode b_Sh_findComponents 28 = .ok (.istore_n 2, 1) := by decide +kernel
theorem d_Sh_findComponents_29 : decode b_Sh_findComponents 29 = .ok (.iconst 0, 1) := by decide +kernel
theorem d_Sh_findComponents_30 : decode b_Sh_findComponents 30 = .ok (.istore_n 3, 1) := by decide +kernel
theorem d_Sh_checkSpheres_109 : decode b_Sh_checkSpheres 109 = .ok (.iinc 2 1, 3) := by decide +kernel
theorem d_Sh_checkSpheres_112 : decode b_Sh_checkSpheres 112 = .ok (.goto (-36), 3) := by decide +kernel
theorem d_Sh_checkSpheres_81 : decode b_Sh_checkSpheres 81 = .ok (.aload_n 0, 1) := by decide +kernel
theorem d_Sh_checkSpheres_82 : decode b_Sh_checkSpheres 82 = .ok (.getfield 61, 3) := by decide +kernel
theorem d_Sh_checkSpheres_85 : decode b_Sh_checkSpheres 85 = .ok (.ifCond .ne 30, 3) := by decide +kernel
theorem d_Sh_checkSpheres_88 : decode b_Sh_checkSpheres 88 = .ok (.aload_n 0, 1) := by decide +kernel
theorem d_Sh_checkSpheres_89 : decode b_Sh_checkSpheres 89 = .ok (.getfield 45, 3) := by decide +kernel
theorem d_Sh_checkSpheres_92 : decode b_Sh_checkSpheres 92 = .ok (.aload_n 0, 1) := by decide +kernel
theorem d_Sh_checkSpheres_93 : decode b_Sh_checkSpheres 93 = .ok (.getfield 33, 3) := by decide +kernel
theorem d_Sh_checkSpheres_96 : decode b_Sh_checkSpheres 96 = .ok (.iload_n 2, 1) := by decide +kernel
theorem d_Sh_checkSpheres_97 : decode b_Sh_checkSpheres 97 = .ok (.iaload, 1) := by decide +kernel
theorem d_Sh_checkSpheres_98 : decode b_Sh_checkSpheres 98 = .ok (.iaload, 1) := by decide +kernel
theorem d_Sh_checkSpheres_99 : decode b_Sh_checkSpheres 99 = .ok (.ifCond .eq 10, 3) := by decide +kernel
theorem d_Sh_checkSpheres_102 : decode b_Sh_checkSpheres 102 = .ok (.aload_n 0, 1) := by decide +kernel
theorem d_Sh_checkSpheres_103 : decode b_Sh_checkSpheres 103 = .ok (.iconst 3, 1) := by decide +kernel
theorem d_Sh_checkSpheres_104 : decode b_Sh_checkSpheres 104 = .ok (.iload_n 2, 1) := by decide +kernel
theorem d_Sh_checkSpheres_105 : decode b_Sh_checkSpheres 105 = .ok (.invokevirtual 79, 3) := by decide +kernel
theorem d_Sh_checkSpheres_108 : decode b_Sh_checkSpheres 108 = .ok (.pop, 1) := by decide +kernel
theorem d_Sh_checkSpheres_53 : decode b_Sh_checkSpheres 53 = .ok (.aload_n 0, 1) := by decide +kernel
theorem d_Sh_checkSpheres_54 : decode b_Sh_checkSpheres 54 = .ok (.getfield 45, 3) := by decide +kernel
theorem d_Sh_checkSpheres_57 : decode b_Sh_checkSpheres 57 = .ok (.aload_n 0, 1) := by decide +kernel
theorem d_Sh_checkSpheres_58 : decode b_Sh_checkSpheres 58 = .ok (.getfield 33, 3) := by decide +kernel
theorem d_Sh_checkSpheres_61 : decode b_Sh_checkSpheres 61 = .ok (.iload_n 2, 1) := by decide +kernel
theorem d_Sh_checkSpheres_62 : decode b_Sh_checkSpheres 62 = .ok (.iaload, 1) := by decide +kernel
theorem d_Sh_checkSpheres_63 : decode b_Sh_checkSpheres 63 = .ok (.dup2, 1) := by decide +kernel
theorem d_Sh_checkSpheres_64 : decode b_Sh_checkSpheres 64 = .ok (.iaload, 1) := by decide +kernel
theorem d_Sh_checkSpheres_65 : decode b_Sh_checkSpheres 65 = .ok (.iconst 1, 1) := by decide +kernel
theorem d_Sh_checkSpheres_66 : decode b_Sh_checkSpheres 66 = .ok (.isub, 1) := by decide +kernel
theorem d_Sh_checkSpheres_67 : decode b_Sh_checkSpheres 67 = .ok (.iastore, 1) := by decide +kernel
theorem d_Sh_checkSpheres_68 : decode b_Sh_checkSpheres 68 = .ok (.iinc 2 1, 3) := by decide +kernel
theorem d_Sh_checkSpheres_71 : decode b_Sh_checkSpheres 71 = .ok (.goto (-23), 3) := by decide +kernel
theorem d_Sh_checkSpheres_19 : decode b_Sh_checkSpheres 19 = .ok (.aload_n 0, 1) := by decide +kernel
theorem d_Sh_checkSpheres_20 : decode b_Sh_checkSpheres 20 = .ok (.getfield 45, 3) := by decide +kernel
theorem d_Sh_checkSpheres_23 : decode b_Sh_checkSpheres 23 = .ok (.aload_n 0, 1) := by decide +kernel
theorem d_Sh_checkSpheres_24 : decode b_Sh_checkSpheres 24 = .ok (.aload_n 0, 1) := by decide +kernel
theorem d_Sh_checkSpheres_25 : decode b_Sh_checkSpheres 25 = .ok (.getfield 39, 3) := by decide +kernel
theorem d_Sh_checkSpheres_28 : decode b_Sh_checkSpheres 28 = .ok (.iload_n 2, 1) := by decide +kernel
theorem d_Sh_checkSpheres_29 : decode b_Sh_checkSpheres 29 = .ok (.iaload, 1) := by decide +kernel
theorem d_Sh_checkSpheres_30 : decode b_Sh_checkSpheres 30 = .ok (.iconst 1, 1) := by decide +kernel
theorem d_Sh_checkSpheres_31 : decode b_Sh_checkSpheres 31 = .ok (.ishr, 1) := by decide +kernel
theorem d_Sh_checkSpheres_32 : decode b_Sh_checkSpheres 32 = .ok (.invokevirtual 108, 3) := by decide +kernel
theorem d_Sh_checkSpheres_35 : decode b_Sh_checkSpheres 35 = .ok (.dup2, 1) := by decide +kernel
theorem d_Sh_checkSpheres_36 : decode b_Sh_checkSpheres 36 = .ok (.iaload, 1) := by decide +kernel
theorem d_Sh_checkSpheres_37 : decode b_Sh_checkSpheres 37 = .ok (.iconst 1, 1) := by decide +kernel
theorem d_Sh_checkSpheres_38 : decode b_Sh_checkSpheres 38 = .ok (.iadd, 1) := by decide +kernel
theorem d_Sh_checkSpheres_39 : decode b_Sh_checkSpheres 39 = .ok (.iastore, 1) := by decide +kernel
theorem d_Sh_checkSpheres_40 : decode b_Sh_checkSpheres 40 = .ok (.iinc 2 1, 3) := by decide +kernel
theorem d_Sh_checkSpheres_43 : decode b_Sh_checkSpheres 43 = .ok (.goto (-32), 3) := by decide +kernel
theorem d_Br_setWord_35 : decode b_Br_setWord 35 = .ok (.iload 4, 2) := by decide +kernel
theorem d_Br_setWord_37 : decode b_Br_setWord 37 = .ok (.iload_n 3, 1) := by decide +kernel
theorem d_Br_setWord_38 : decode b_Br_setWord 38 = .ok (.if_icmp .ge 50, 3) := by decide +kernel
theorem d_Br_setWord_88 : decode b_Br_setWord 88 = .ok (.aload_n 0, 1) := by decide +kernel
theorem d_Br_setWord_89 : decode b_Br_setWord 89 = .ok (.iload_n 2, 1) := by decide +kernel
theorem d_Br_setWord_90 : decode b_Br_setWord 90 = .ok (.putfield 21, 3) := by decide +kernel
theorem d_Br_setWord_93 : decode b_Br_setWord 93 = .ok (.aload_n 0, 1) := by decide +kernel
theorem d_Br_setWord_94 : decode b_Br_setWord 94 = .ok (.iload_n 3, 1) := by decide +kernel
theorem d_Br_setWord_95 : decode b_Br_setWord 95 = .ok (.putfield 40, 3) := by decide +kernel
theorem d_Br_setWord_98 : decode b_Br_setWord 98 = .ok (.aload_n 0, 1) := by decide +kernel
theorem d_Br_setWord_99 : decode b_Br_setWord 99 = .ok (.iconst 0, 1) := by decide +kernel
theorem d_Br_setWord_100 : decode b_Br_setWord 100 = .ok (.putfield 43, 3) := by decide +kernel
theorem d_Br_setWord_103 : decode b_Br_setWord 103 = .ok (.iconst 1, 1) := by decide +kernel
theorem d_Br_setWord_104 : decode b_Br_setWord 104 = .ok (.ireturn, 1) := by decide +kernel
theorem d_Br_setWord_41 : decode b_Br_setWord 41 = .ok (.aload_n 0, 1) := by decide +kernel
theorem d_Br_setWord_42 : decode b_Br_setWord 42 = .ok (.getfield 9, 3) := by decide +kernel
theorem d_Br_setWord_45 : decode b_Br_setWord 45 = .ok (.iload 4, 2) := by decide +kernel
theorem d_Br_setWord_47 : decode b_Br_setWord 47 = .ok (.aload_n 1, 1) := by decide +kernel
theorem d_Br_setWord_48 : decode b_Br_setWord 48 = .ok (.iload 4, 2) := by decide +kernel
theorem d_Br_setWord_50 : decode b_Br_setWord 50 = .ok (.iconst 1, 1) := by decide +kernel
theorem d_Br_setWord_51 : decode b_Br_setWord 51 = .ok (.iadd, 1) := by decide +kernel
theorem d_Br_setWord_52 : decode b_Br_setWord 52 = .ok (.invokevirtual 25, 3) := by decide +kernel
theorem d_Br_setWord_55 : decode b_Br_setWord 55 = .ok (.iastore, 1) := by decide +kernel
theorem d_Br_setWord_56 : decode b_Br_setWord 56 = .ok (.aload_n 0, 1) := by decide +kernel
theorem d_Br_setWord_57 : decode b_Br_setWord 57 = .ok (.getfield 9, 3) := by decide +kernel
theorem d_Br_setWord_60 : decode b_Br_setWord 60 = .ok (.iload 4, 2) := by decide +kernel
theorem d_Br_setWord_62 : decode b_Br_setWord 62 = .ok (.iaload, 1) := by decide +kernel
theorem d_Br_setWord_63 : decode b_Br_setWord 63 = .ok (.invokestatic 35, 3) := by decide +kernel
theorem d_Br_setWord_66 : decode b_Br_setWord 66 = .ok (.istore 5, 2) := by decide +kernel
theorem d_Br_setWord_68 : decode b_Br_setWord 68 = .ok (.iload 5, 2) := by decide +kernel
theorem d_Br_setWord_70 : decode b_Br_setWord 70 = .ok (.iconst 1, 1) := by decide +kernel
theorem d_Br_setWord_71 : decode b_Br_setWord 71 = .ok (.if_icmp .lt 9, 3) := by decide +kernel
theorem d_Br_setWord_80 : decode b_Br_setWord 80 = .ok (.iconst 0, 1) := by decide +kernel
theorem d_Br_setWord_81 : decode b_Br_setWord 81 = .ok (.ireturn, 1) := by decide +kernel
theorem d_Br_setWord_74 : decode b_Br_setWord 74 = .ok (.iload 5, 2) := by decide +kernel
theorem d_Br_setWord_76 : decode b_Br_setWord 76 = .ok (.iload_n 2, 1) := by decide +kernel
theorem d_Br_setWord_77 : decode b_Br_setWord 77 = .ok (.if_icmp .lt 5, 3) := by decide +kernel
theorem d_Br_setWord_82 : decode b_Br_setWord 82 = .ok (.iinc 4 1, 3) := by decide +kernel
theorem d_Br_setWord_85 : decode b_Br_setWord 85 = .ok (.goto (-50), 3) := by decide +kernel
theorem d_Br_setWord_0 : decode b_Br_setWord 0 = .ok (.aload_n 1, 1) := by decide +kernel
theorem d_Br_setWord_1 : decode b_Br_setWord 1 = .ok (.iconst 0, 1) := by decide +kernel
theorem d_Br_setWord_2 : decode b_Br_setWord 2 = .ok (.invokevirtual 25, 3) := by decide +kernel
theorem d_Br_setWord_5 : decode b_Br_setWord 5 = .ok (.istore_n 2, 1) := by decide +kernel
theorem d_Br_setWord_6 : decode b_Br_setWord 6 = .ok (.aload_n 1, 1) := by decide +kernel
theorem d_Br_setWord_7 : decode b_Br_setWord 7 = .ok (.invokevirtual 31, 3) := by decide +kernel
theorem d_Br_setWord_10 : decode b_Br_setWord 10 = .ok (.iconst 1, 1) := by decide +kernel
