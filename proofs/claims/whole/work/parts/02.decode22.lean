theorem d_Rd_isStray_0 : decode b_Rd_isStray 0 = .ok (.iload_n 0, 1) := by decide +kernel
theorem d_Rd_isStray_1 : decode b_Rd_isStray 1 = .ok (.bipush 32, 2) := by decide +kernel
theorem d_Rd_isStray_3 : decode b_Rd_isStray 3 = .ok (.if_icmp .lt 9, 3) := by decide +kernel
theorem d_Rd_isStray_6 : decode b_Rd_isStray 6 = .ok (.iload_n 0, 1) := by decide +kernel
theorem d_Rd_isStray_7 : decode b_Rd_isStray 7 = .ok (.bipush 126, 2) := by decide +kernel
theorem d_Rd_isStray_9 : decode b_Rd_isStray 9 = .ok (.if_icmp .le 7, 3) := by decide +kernel
theorem d_Rd_isStray_12 : decode b_Rd_isStray 12 = .ok (.iconst 1, 1) := by decide +kernel
theorem d_Rd_isStray_13 : decode b_Rd_isStray 13 = .ok (.goto 4, 3) := by decide +kernel
theorem d_Rd_isStray_16 : decode b_Rd_isStray 16 = .ok (.iconst 0, 1) := by decide +kernel
theorem d_Rd_isStray_17 : decode b_Rd_isStray 17 = .ok (.ireturn, 1) := by decide +kernel
theorem d_Rd_isWord_0 : decode b_Rd_isWord 0 = .ok (.aload_n 0, 1) := by decide +kernel
theorem d_Rd_isWord_1 : decode b_Rd_isWord 1 = .ok (.getfield 41, 3) := by decide +kernel
theorem d_Rd_isWord_4 : decode b_Rd_isWord 4 = .ok (.iconst 2, 1) := by decide +kernel
theorem d_Rd_isWord_5 : decode b_Rd_isWord 5 = .ok (.if_icmp .ne 19, 3) := by decide +kernel
theorem d_Rd_isWord_8 : decode b_Rd_isWord 8 = .ok (.aload_n 0, 1) := by decide +kernel
theorem d_Rd_isWord_9 : decode b_Rd_isWord 9 = .ok (.getfield 29, 3) := by decide +kernel
theorem d_Rd_isWord_12 : decode b_Rd_isWord 12 = .ok (.aload_n 0, 1) := by decide +kernel
theorem d_Rd_isWord_13 : decode b_Rd_isWord 13 = .ok (.getfield 44, 3) := by decide +kernel
theorem d_Rd_isWord_16 : decode b_Rd_isWord 16 = .ok (.isub, 1) := by decide +kernel
theorem d_Rd_isWord_17 : decode b_Rd_isWord 17 = .ok (.aload_n 1, 1) := by decide +kernel
theorem d_Rd_isWord_18 : decode b_Rd_isWord 18 = .ok (.invokevirtual 129, 3) := by decide +kernel
theorem d_Rd_isWord_21 : decode b_Rd_isWord 21 = .ok (.if_icmp .eq 5, 3) := by decide +kernel
theorem d_Rd_isWord_24 : decode b_Rd_isWord 24 = .ok (.iconst 0, 1) := by decide +kernel
theorem d_Rd_isWord_25 : decode b_Rd_isWord 25 = .ok (.ireturn, 1) := by decide +kernel
theorem d_Rd_isWord_26 : decode b_Rd_isWord 26 = .ok (.iconst 0, 1) := by decide +kernel
theorem d_Rd_isWord_27 : decode b_Rd_isWord 27 = .ok (.istore_n 2, 1) := by decide +kernel
theorem d_Rd_isWord_28 : decode b_Rd_isWord 28 = .ok (.iload_n 2, 1) := by decide +kernel
theorem d_Rd_isWord_29 : decode b_Rd_isWord 29 = .ok (.aload_n 1, 1) := by decide +kernel
theorem d_Rd_isWord_30 : decode b_Rd_isWord 30 = .ok (.invokevirtual 129, 3) := by decide +kernel
theorem d_Rd_isWord_33 : decode b_Rd_isWord 33 = .ok (.if_icmp .ge 30, 3) := by decide +kernel
theorem d_Rd_isWord_36 : decode b_Rd_isWord 36 = .ok (.aload_n 0, 1) := by decide +kernel
theorem d_Rd_isWord_37 : decode b_Rd_isWord 37 = .ok (.getfield 9, 3) := by decide +kernel
theorem d_Rd_isWord_40 : decode b_Rd_isWord 40 = .ok (.aload_n 0, 1) := by decide +kernel
theorem d_Rd_isWord_41 : decode b_Rd_isWord 41 = .ok (.getfield 44, 3) := by decide +kernel
theorem d_Rd_isWord_44 : decode b_Rd_isWord 44 = .ok (.iload_n 2, 1) := by decide +kernel
theorem d_Rd_isWord_45 : decode b_Rd_isWord 45 = .ok (.iadd, 1) := by decide +kernel
theorem d_Rd_isWord_46 : decode b_Rd_isWord 46 = .ok (.iaload, 1) := by decide +kernel
theorem d_Rd_isWord_47 : decode b_Rd_isWord 47 = .ok (.aload_n 1, 1) := by decide +kernel
theorem d_Rd_isWord_48 : decode b_Rd_isWord 48 = .ok (.iload_n 2, 1) := by decide +kernel
theorem d_Rd_isWord_49 : decode b_Rd_isWord 49 = .ok (.invokevirtual 134, 3) := by decide +kernel
theorem d_Rd_isWord_52 : decode b_Rd_isWord 52 = .ok (.if_icmp .eq 5, 3) := by decide +kernel
theorem d_Rd_isWord_55 : decode b_Rd_isWord 55 = .ok (.iconst 0, 1) := by decide +kernel
theorem d_Rd_isWord_56 : decode b_Rd_isWord 56 = .ok (.ireturn, 1) := by decide +kernel
theorem d_Rd_isWord_57 : decode b_Rd_isWord 57 = .ok (.iinc 2 1, 3) := by decide +kernel
theorem d_Rd_isWord_60 : decode b_Rd_isWord 60 = .ok (.goto (-32), 3) := by decide +kernel
theorem d_Rd_isWord_63 : decode b_Rd_isWord 63 = .ok (.iconst 1, 1) := by decide +kernel
theorem d_Rd_isWord_64 : decode b_Rd_isWord 64 = .ok (.ireturn, 1) := by decide +kernel
theorem d_Rd_kindOfWord_0 : decode b_Rd_kindOfWord 0 = .ok (.iconst 1, 1) := by decide +kernel
theorem d_Rd_kindOfWord_1 : decode b_Rd_kindOfWord 1 = .ok (.istore_n 1, 1) := by decide +kernel
theorem d_Rd_kindOfWord_2 : decode b_Rd_kindOfWord 2 = .ok (.iload_n 1, 1) := by decide +kernel
theorem d_Rd_kindOfWord_3 : decode b_Rd_kindOfWord 3 = .ok (.bipush 18, 2) := by decide +kernel
theorem d_Rd_kindOfWord_5 : decode b_Rd_kindOfWord 5 = .ok (.if_icmp .gt 22, 3) := by decide +kernel
theorem d_Rd_kindOfWord_8 : decode b_Rd_kindOfWord 8 = .ok (.aload_n 0, 1) := by decide +kernel
theorem d_Rd_kindOfWord_9 : decode b_Rd_kindOfWord 9 = .ok (.iload_n 1, 1) := by decide +kernel
theorem d_Rd_kindOfWord_10 : decode b_Rd_kindOfWord 10 = .ok (.invokestatic 138, 3) := by decide +kernel
theorem d_Rd_kindOfWord_13 : decode b_Rd_kindOfWord 13 = .ok (.invokevirtual 95, 3) := by decide +kernel
theorem d_Rd_kindOfWord_16 : decode b_Rd_kindOfWord 16 = .ok (.ifCond .eq 5, 3) := by decide +kernel
theorem d_Rd_kindOfWord_19 : decode b_Rd_kindOfWord 19 = .ok (.iload_n 1, 1) := by decide +kernel
theorem d_Rd_kindOfWord_20 : decode b_Rd_kindOfWord 20 = .ok (.ireturn, 1) := by decide +kernel
theorem d_Rd_kindOfWord_21 : decode b_Rd_kindOfWord 21 = .ok (.iinc 1 1, 3) := by decide +kernel
theorem d_Rd_kindOfWord_24 : decode b_Rd_kindOfWord 24 = .ok (.goto (-22), 3) := by decide +kernel
theorem d_Rd_kindOfWord_27 : decode b_Rd_kindOfWord 27 = .ok (.iconst 0, 1) := by decide +kernel
theorem d_Rd_kindOfWord_28 : decode b_Rd_kindOfWord 28 = .ok (.ireturn, 1) := by decide +kernel
theorem d_Rd_readCode_0 : decode b_Rd_readCode 0 = .ok (.iconst 0, 1) := by decide +kernel
theorem d_Rd_readCode_1 : decode b_Rd_readCode 1 = .ok (.istore_n 1, 1) := by decide +kernel
theorem d_Rd_readCode_2 : decode b_Rd_readCode 2 = .ok (.iload_n 1, 1) := by decide +kernel
theorem d_Rd_readCode_3 : decode b_Rd_readCode 3 = .ok (.bipush 20, 2) := by decide +kernel
theorem d_Rd_readCode_5 : decode b_Rd_readCode 5 = .ok (.if_icmp .gt 37, 3) := by decide +kernel
theorem d_Rd_readCode_8 : decode b_Rd_readCode 8 = .ok (.aload_n 0, 1) := by decide +kernel
theorem d_Rd_readCode_9 : decode b_Rd_readCode 9 = .ok (.invokevirtual 87, 3) := by decide +kernel
theorem d_Rd_readCode_12 : decode b_Rd_readCode 12 = .ok (.ifCond .eq 30, 3) := by decide +kernel
theorem d_Rd_readCode_15 : decode b_Rd_readCode 15 = .ok (.iload_n 1, 1) := by decide +kernel
theorem d_Rd_readCode_16 : decode b_Rd_readCode 16 = .ok (.bipush 20, 2) := by decide +kernel
theorem d_Rd_readCode_18 : decode b_Rd_readCode 18 = .ok (.if_icmp .ne 9, 3) := by decide +kernel
theorem d_Rd_readCode_21 : decode b_Rd_readCode 21 = .ok (.aload_n 0, 1) := by decide +kernel
theorem d_Rd_readCode_22 : decode b_Rd_readCode 22 = .ok (.iconst 5, 1) := by decide +kernel
theorem d_Rd_readCode_23 : decode b_Rd_readCode 23 = .ok (.invokevirtual 51, 3) := by decide +kernel
theorem d_Rd_readCode_26 : decode b_Rd_readCode 26 = .ok (.ireturn, 1) := by decide +kernel
theorem d_Rd_readCode_27 : decode b_Rd_readCode 27 = .ok (.aload_n 0, 1) := by decide +kernel
theorem d_Rd_readCode_28 : decode b_Rd_readCode 28 = .ok (.invokevirtual 90, 3) := by decide +kernel
theorem d_Rd_readCode_31 : decode b_Rd_readCode 31 = .ok (.ifCond .ne 5, 3) := by decide +kernel
theorem d_Rd_readCode_34 : decode b_Rd_readCode 34 = .ok (.iconst 0, 1) := by decide +kernel
theorem d_Rd_readCode_35 : decode b_Rd_readCode 35 = .ok (.ireturn, 1) := by decide +kernel
theorem d_Rd_readCode_36 : decode b_Rd_readCode 36 = .ok (.iinc 1 1, 3) := by decide +kernel
theorem d_Rd_readCode_39 : decode b_Rd_readCode 39 = .ok (.goto (-37), 3) := by decide +kernel
theorem d_Rd_readCode_42 : decode b_Rd_readCode 42 = .ok (.aload_n 0, 1) := by decide +kernel
theorem d_Rd_readCode_43 : decode b_Rd_readCode 43 = .ok (.ldc 93, 2) := by decide +kernel
theorem d_Rd_readCode_45 : decode b_Rd_readCode 45 = .ok (.invokevirtual 95, 3) := by decide +kernel
theorem d_Rd_readCode_48 : decode b_Rd_readCode 48 = .ok (.ifCond .eq 13, 3) := by decide +kernel
theorem d_Rd_readCode_51 : decode b_Rd_readCode 51 = .ok (.aload_n 0, 1) := by decide +kernel
theorem d_Rd_readCode_52 : decode b_Rd_readCode 52 = .ok (.invokevirtual 38, 3) := by decide +kernel
theorem d_Rd_readCode_55 : decode b_Rd_readCode 55 = .ok (.aload_n 0, 1) := by decide +kernel
theorem d_Rd_readCode_56 : decode b_Rd_readCode 56 = .ok (.iconst 0, 1) := by decide +kernel
theorem d_Rd_readCode_57 : decode b_Rd_readCode 57 = .ok (.invokevirtual 66, 3) := by decide +kernel
theorem d_Rd_readCode_60 : decode b_Rd_readCode 60 = .ok (.ireturn, 1) := by decide +kernel
theorem d_Rd_readCode_61 : decode b_Rd_readCode 61 = .ok (.aload_n 0, 1) := by decide +kernel
theorem d_Rd_readCode_62 : decode b_Rd_readCode 62 = .ok (.getfield 18, 3) := by decide +kernel
theorem d_Rd_readCode_65 : decode b_Rd_readCode 65 = .ok (.lconst 0, 1) := by decide +kernel
theorem d_Rd_readCode_66 : decode b_Rd_readCode 66 = .ok (.invokevirtual 98, 3) := by decide +kernel
theorem d_Rd_readCode_69 : decode b_Rd_readCode 69 = .ok (.iconst 1, 1) := by decide +kernel
theorem d_Rd_readCode_70 : decode b_Rd_readCode 70 = .ok (.ireturn, 1) := by decide +kernel
theorem d_Rd_readCrossing_0 : decode b_Rd_readCrossing 0 = .ok (.aload_n 0, 1) := by decide +kernel
theorem d_Rd_readCrossing_1 : decode b_Rd_readCrossing 1 = .ok (.invokevirtual 73, 3) := by decide +kernel
theorem d_Rd_readCrossing_4 : decode b_Rd_readCrossing 4 = .ok (.ifCond .eq 84, 3) := by decide +kernel
theorem d_Rd_readCrossing_7 : decode b_Rd_readCrossing 7 = .ok (.aload_n 0, 1) := by decide +kernel
theorem d_Rd_readCrossing_8 : decode b_Rd_readCrossing 8 = .ok (.bipush 91, 2) := by decide +kernel
theorem d_Rd_readCrossing_10 : decode b_Rd_readCrossing 10 = .ok (.invokevirtual 102, 3) := by decide +kernel
theorem d_Rd_readCrossing_13 : decode b_Rd_readCrossing 13 = .ok (.ifCond .eq 75, 3) := by decide +kernel
theorem d_Rd_readCrossing_16 : decode b_Rd_readCrossing 16 = .ok (.aload_n 0, 1) := by decide +kernel
theorem d_Rd_readCrossing_17 : decode b_Rd_readCrossing 17 = .ok (.iconst 0, 1) := by decide +kernel
theorem d_Rd_readCrossing_18 : decode b_Rd_readCrossing 18 = .ok (.invokevirtual 66, 3) := by decide +kernel
theorem d_Rd_readCrossing_21 : decode b_Rd_readCrossing 21 = .ok (.ifCond .eq 67, 3) := by decide +kernel
theorem d_Rd_readCrossing_24 : decode b_Rd_readCrossing 24 = .ok (.aload_n 0, 1) := by decide +kernel
theorem d_Rd_readCrossing_25 : decode b_Rd_readCrossing 25 = .ok (.bipush 44, 2) := by decide +kernel
theorem d_Rd_readCrossing_27 : decode b_Rd_readCrossing 27 = .ok (.invokevirtual 102, 3) := by decide +kernel
theorem d_Rd_readCrossing_30 : decode b_Rd_readCrossing 30 = .ok (.ifCond .eq 58, 3) := by decide +kernel
theorem d_Rd_readCrossing_33 : decode b_Rd_readCrossing 33 = .ok (.aload_n 0, 1) := by decide +kernel
theorem d_Rd_readCrossing_34 : decode b_Rd_readCrossing 34 = .ok (.iconst 0, 1) := by decide +kernel
theorem d_Rd_readCrossing_35 : decode b_Rd_readCrossing 35 = .ok (.invokevirtual 66, 3) := by decide +kernel
theorem d_Rd_readCrossing_38 : decode b_Rd_readCrossing 38 = .ok (.ifCond .eq 50, 3) := by decide +kernel
theorem d_Rd_readCrossing_41 : decode b_Rd_readCrossing 41 = .ok (.aload_n 0, 1) := by decide +kernel
theorem d_Rd_readCrossing_42 : decode b_Rd_readCrossing 42 = .ok (.bipush 44, 2) := by decide +kernel
theorem d_Rd_readCrossing_44 : decode b_Rd_readCrossing 44 = .ok (.invokevirtual 102, 3) := by decide +kernel
theorem d_Rd_readCrossing_47 : decode b_Rd_readCrossing 47 = .ok (.ifCond .eq 41, 3) := by decide +kernel
theorem d_Rd_readCrossing_50 : decode b_Rd_readCrossing 50 = .ok (.aload_n 0, 1) := by decide +kernel
theorem d_Rd_readCrossing_51 : decode b_Rd_readCrossing 51 = .ok (.iconst 0, 1) := by decide +kernel
theorem d_Rd_readCrossing_52 : decode b_Rd_readCrossing 52 = .ok (.invokevirtual 66, 3) := by decide +kernel
theorem d_Rd_readCrossing_55 : decode b_Rd_readCrossing 55 = .ok (.ifCond .eq 33, 3) := by decide +kernel
theorem d_Rd_readCrossing_58 : decode b_Rd_readCrossing 58 = .ok (.aload_n 0, 1) := by decide +kernel
theorem d_Rd_readCrossing_59 : decode b_Rd_readCrossing 59 = .ok (.bipush 44, 2) := by decide +kernel
theorem d_Rd_readCrossing_61 : decode b_Rd_readCrossing 61 = .ok (.invokevirtual 102, 3) := by decide +kernel
theorem d_Rd_readCrossing_64 : decode b_Rd_readCrossing 64 = .ok (.ifCond .eq 24, 3) := by decide +kernel
theorem d_Rd_readCrossing_67 : decode b_Rd_readCrossing 67 = .ok (.aload_n 0, 1) := by decide +kernel
theorem d_Rd_readCrossing_68 : decode b_Rd_readCrossing 68 = .ok (.iconst 0, 1) := by decide +kernel
theorem d_Rd_readCrossing_69 : decode b_Rd_readCrossing 69 = .ok (.invokevirtual 66, 3) := by decide +kernel
theorem d_Rd_readCrossing_72 : decode b_Rd_readCrossing 72 = .ok (.ifCond .eq 16, 3) := by decide +kernel
theorem d_Rd_readCrossing_75 : decode b_Rd_readCrossing 75 = .ok (.aload_n 0, 1) := by decide +kernel
theorem d_Rd_readCrossing_76 : decode b_Rd_readCrossing 76 = .ok (.bipush 93, 2) := by decide +kernel
theorem d_Rd_readCrossing_78 : decode b_Rd_readCrossing 78 = .ok (.invokevirtual 102, 3) := by decide +kernel
theorem d_Rd_readCrossing_81 : decode b_Rd_readCrossing 81 = .ok (.ifCond .eq 7, 3) := by decide +kernel
theorem d_Rd_readCrossing_84 : decode b_Rd_readCrossing 84 = .ok (.iconst 1, 1) := by decide +kernel
theorem d_Rd_readCrossing_85 : decode b_Rd_readCrossing 85 = .ok (.goto 4, 3) := by decide +kernel
theorem d_Rd_readCrossing_88 : decode b_Rd_readCrossing 88 = .ok (.iconst 0, 1) := by decide +kernel
theorem d_Rd_readCrossing_89 : decode b_Rd_readCrossing 89 = .ok (.ireturn, 1) := by decide +kernel
theorem d_Rd_readLetters_0 : decode b_Rd_readLetters 0 = .ok (.iconst 0, 1) := by decide +kernel
theorem d_Rd_readLetters_1 : decode b_Rd_readLetters 1 = .ok (.istore_n 1, 1) := by decide +kernel
theorem d_Rd_readLetters_2 : decode b_Rd_readLetters 2 = .ok (.iload_n 1, 1) := by decide +kernel
theorem d_Rd_readLetters_3 : decode b_Rd_readLetters 3 = .ok (.bipush 32, 2) := by decide +kernel
theorem d_Rd_readLetters_5 : decode b_Rd_readLetters 5 = .ok (.if_icmp .gt 48, 3) := by decide +kernel
theorem d_Rd_readLetters_8 : decode b_Rd_readLetters 8 = .ok (.aload_n 0, 1) := by decide +kernel
theorem d_Rd_readLetters_9 : decode b_Rd_readLetters 9 = .ok (.getfield 41, 3) := by decide +kernel
theorem d_Rd_readLetters_12 : decode b_Rd_readLetters 12 = .ok (.iconst 3, 1) := by decide +kernel
theorem d_Rd_readLetters_13 : decode b_Rd_readLetters 13 = .ok (.if_icmp .eq 12, 3) := by decide +kernel
theorem d_Rd_readLetters_16 : decode b_Rd_readLetters 16 = .ok (.aload_n 0, 1) := by decide +kernel
theorem d_Rd_readLetters_17 : decode b_Rd_readLetters 17 = .ok (.bipush 45, 2) := by decide +kernel
theorem d_Rd_readLetters_19 : decode b_Rd_readLetters 19 = .ok (.invokevirtual 106, 3) := by decide +kernel
theorem d_Rd_readLetters_22 : decode b_Rd_readLetters 22 = .ok (.ifCond .eq 31, 3) := by decide +kernel
theorem d_Rd_readLetters_25 : decode b_Rd_readLetters 25 = .ok (.iload_n 1, 1) := by decide +kernel
theorem d_Rd_readLetters_26 : decode b_Rd_readLetters 26 = .ok (.bipush 32, 2) := by decide +kernel
theorem d_Rd_readLetters_28 : decode b_Rd_readLetters 28 = .ok (.if_icmp .ne 9, 3) := by decide +kernel
theorem d_Rd_readLetters_31 : decode b_Rd_readLetters 31 = .ok (.aload_n 0, 1) := by decide +kernel
theorem d_Rd_readLetters_32 : decode b_Rd_readLetters 32 = .ok (.iconst 5, 1) := by decide +kernel
theorem d_Rd_readLetters_33 : decode b_Rd_readLetters 33 = .ok (.invokevirtual 51, 3) := by decide +kernel
theorem d_Rd_readLetters_36 : decode b_Rd_readLetters 36 = .ok (.ireturn, 1) := by decide +kernel
theorem d_Rd_readLetters_37 : decode b_Rd_readLetters 37 = .ok (.aload_n 0, 1) := by decide +kernel
theorem d_Rd_readLetters_38 : decode b_Rd_readLetters 38 = .ok (.iconst 1, 1) := by decide +kernel
theorem d_Rd_readLetters_39 : decode b_Rd_readLetters 39 = .ok (.invokevirtual 66, 3) := by decide +kernel
theorem d_Rd_readLetters_42 : decode b_Rd_readLetters 42 = .ok (.ifCond .ne 5, 3) := by decide +kernel
theorem d_Rd_readLetters_45 : decode b_Rd_readLetters 45 = .ok (.iconst 0, 1) := by decide +kernel
theorem d_Rd_readLetters_46 : decode b_Rd_readLetters 46 = .ok (.ireturn, 1) := by decide +kernel
theorem d_Rd_readLetters_47 : decode b_Rd_readLetters 47 = .ok (.iinc 1 1, 3) := by decide +kernel
theorem d_Rd_readLetters_50 : decode b_Rd_readLetters 50 = .ok (.goto (-48), 3) := by decide +kernel
theorem d_Rd_readLetters_53 : decode b_Rd_readLetters 53 = .ok (.iconst 1, 1) := by decide +kernel
theorem d_Rd_readLetters_54 : decode b_Rd_readLetters 54 = .ok (.ireturn, 1) := by decide +kernel
theorem d_Rd_readMark_0 : decode b_Rd_readMark 0 = .ok (.aload_n 0, 1) := by decide +kernel
theorem d_Rd_readMark_1 : decode b_Rd_readMark 1 = .ok (.iload_n 1, 1) := by decide +kernel
theorem d_Rd_readMark_2 : decode b_Rd_readMark 2 = .ok (.invokevirtual 106, 3) := by decide +kernel
theorem d_Rd_readMark_5 : decode b_Rd_readMark 5 = .ok (.ifCond .ne 9, 3) := by decide +kernel
theorem d_Rd_readMark_8 : decode b_Rd_readMark 8 = .ok (.aload_n 0, 1) := by decide +kernel
theorem d_Rd_readMark_9 : decode b_Rd_readMark 9 = .ok (.iconst 4, 1) := by decide +kernel
theorem d_Rd_readMark_10 : decode b_Rd_readMark 10 = .ok (.invokevirtual 51, 3) := by decide +kernel
theorem d_Rd_readMark_13 : decode b_Rd_readMark 13 = .ok (.ireturn, 1) := by decide +kernel
theorem d_Rd_readMark_14 : decode b_Rd_readMark 14 = .ok (.aload_n 0, 1) := by decide +kernel
theorem d_Rd_readMark_15 : decode b_Rd_readMark 15 = .ok (.invokevirtual 38, 3) := by decide +kernel
theorem d_Rd_readMark_18 : decode b_Rd_readMark 18 = .ok (.iconst 1, 1) := by decide +kernel
theorem d_Rd_readMark_19 : decode b_Rd_readMark 19 = .ok (.ireturn, 1) := by decide +kernel
theorem d_Rd_readNumber_0 : decode b_Rd_readNumber 0 = .ok (.iconst 1, 1) := by decide +kernel
theorem d_Rd_readNumber_1 : decode b_Rd_readNumber 1 = .ok (.istore_n 2, 1) := by decide +kernel
theorem d_Rd_readNumber_2 : decode b_Rd_readNumber 2 = .ok (.iload_n 1, 1) := by decide +kernel
theorem d_Rd_readNumber_3 : decode b_Rd_readNumber 3 = .ok (.ifCond .eq 18, 3) := by decide +kernel
theorem d_Rd_readNumber_6 : decode b_Rd_readNumber 6 = .ok (.aload_n 0, 1) := by decide +kernel
theorem d_Rd_readNumber_7 : decode b_Rd_readNumber 7 = .ok (.bipush 45, 2) := by decide +kernel
theorem d_Rd_readNumber_9 : decode b_Rd_readNumber 9 = .ok (.invokevirtual 106, 3) := by decide +kernel
theorem d_Rd_readNumber_12 : decode b_Rd_readNumber 12 = .ok (.ifCond .eq 9, 3) := by decide +kernel
theorem d_Rd_readNumber_15 : decode b_Rd_readNumber 15 = .ok (.iconst (-1), 1) := by decide +kernel
theorem d_Rd_readNumber_16 : decode b_Rd_readNumber 16 = .ok (.istore_n 2, 1) := by decide +kernel
theorem d_Rd_readNumber_17 : decode b_Rd_readNumber 17 = .ok (.aload_n 0, 1) := by decide +kernel
theorem d_Rd_readNumber_18 : decode b_Rd_readNumber 18 = .ok (.invokevirtual 38, 3) := by decide +kernel
theorem d_Rd_readNumber_21 : decode b_Rd_readNumber 21 = .ok (.aload_n 0, 1) := by decide +kernel
theorem d_Rd_readNumber_22 : decode b_Rd_readNumber 22 = .ok (.getfield 41, 3) := by decide +kernel
