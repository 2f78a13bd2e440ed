theorem d_Rd_advance_40 : decode b_Rd_advance 40 = .ok (.putfield 29, 3) := by decide +kernel
theorem d_Rd_advance_43 : decode b_Rd_advance 43 = .ok (.iload_n 1, 1) := by decide +kernel
theorem d_Rd_advance_44 : decode b_Rd_advance 44 = .ok (.invokestatic 148, 3) := by decide +kernel
theorem d_Rd_advance_47 : decode b_Rd_advance 47 = .ok (.ifCond .eq 11, 3) := by decide +kernel
theorem d_Rd_advance_58 : decode b_Rd_advance 58 = .ok (.iload_n 1, 1) := by decide +kernel
theorem d_Rd_advance_59 : decode b_Rd_advance 59 = .ok (.invokestatic 151, 3) := by decide +kernel
theorem d_Rd_advance_62 : decode b_Rd_advance 62 = .ok (.ifCond .eq 47, 3) := by decide +kernel
theorem d_Rd_advance_109 : decode b_Rd_advance 109 = .ok (.iload_n 1, 1) := by decide +kernel
theorem d_Rd_advance_110 : decode b_Rd_advance 110 = .ok (.bipush 48, 2) := by decide +kernel
theorem d_Rd_advance_112 : decode b_Rd_advance 112 = .ok (.if_icmp .lt 25, 3) := by decide +kernel
theorem d_Rd_advance_115 : decode b_Rd_advance 115 = .ok (.iload_n 1, 1) := by decide +kernel
theorem d_Rd_advance_116 : decode b_Rd_advance 116 = .ok (.bipush 57, 2) := by decide +kernel
theorem d_Rd_advance_118 : decode b_Rd_advance 118 = .ok (.if_icmp .gt 19, 3) := by decide +kernel
theorem d_Rd_advance_121 : decode b_Rd_advance 121 = .ok (.aload_n 0, 1) := by decide +kernel
theorem d_Rd_advance_122 : decode b_Rd_advance 122 = .ok (.iconst 3, 1) := by decide +kernel
theorem d_Rd_advance_123 : decode b_Rd_advance 123 = .ok (.putfield 41, 3) := by decide +kernel
theorem d_Rd_advance_126 : decode b_Rd_advance 126 = .ok (.aload_n 0, 1) := by decide +kernel
theorem d_Rd_advance_127 : decode b_Rd_advance 127 = .ok (.iload_n 1, 1) := by decide +kernel
theorem d_Rd_advance_128 : decode b_Rd_advance 128 = .ok (.bipush 48, 2) := by decide +kernel
theorem d_Rd_advance_130 : decode b_Rd_advance 130 = .ok (.isub, 1) := by decide +kernel
theorem d_Rd_advance_131 : decode b_Rd_advance 131 = .ok (.invokevirtual 154, 3) := by decide +kernel
theorem d_Rd_advance_134 : decode b_Rd_advance 134 = .ok (.goto 14, 3) := by decide +kernel
theorem d_Rd_advance_65 : decode b_Rd_advance 65 = .ok (.aload_n 0, 1) := by decide +kernel
theorem d_Rd_advance_66 : decode b_Rd_advance 66 = .ok (.iconst 2, 1) := by decide +kernel
theorem d_Rd_advance_67 : decode b_Rd_advance 67 = .ok (.putfield 41, 3) := by decide +kernel
theorem d_Rd_advance_50 : decode b_Rd_advance 50 = .ok (.aload_n 0, 1) := by decide +kernel
theorem d_Rd_advance_51 : decode b_Rd_advance 51 = .ok (.iconst 1, 1) := by decide +kernel
theorem d_Rd_advance_52 : decode b_Rd_advance 52 = .ok (.putfield 41, 3) := by decide +kernel
theorem d_Rd_advance_55 : decode b_Rd_advance 55 = .ok (.goto 93, 3) := by decide +kernel
theorem d_Rd_advance_27 : decode b_Rd_advance 27 = .ok (.aload_n 0, 1) := by decide +kernel
theorem d_Rd_advance_28 : decode b_Rd_advance 28 = .ok (.iconst 0, 1) := by decide +kernel
theorem d_Rd_advance_29 : decode b_Rd_advance 29 = .ok (.putfield 41, 3) := by decide +kernel
theorem d_Rd_advance_32 : decode b_Rd_advance 32 = .ok (.return_, 1) := by decide +kernel
theorem d_Rd_isSign_18 : decode b_Rd_isSign 18 = .ok (.iconst 1, 1) := by decide +kernel
theorem d_Rd_isSign_19 : decode b_Rd_isSign 19 = .ok (.goto 4, 3) := by decide +kernel
theorem d_Rd_isSign_23 : decode b_Rd_isSign 23 = .ok (.ireturn, 1) := by decide +kernel
theorem d_Rd_isSign_0 : decode b_Rd_isSign 0 = .ok (.aload_n 0, 1) := by decide +kernel
theorem d_Rd_isSign_1 : decode b_Rd_isSign 1 = .ok (.bipush 43, 2) := by decide +kernel
theorem d_Rd_isSign_3 : decode b_Rd_isSign 3 = .ok (.invokevirtual 106, 3) := by decide +kernel
theorem d_Rd_isSign_6 : decode b_Rd_isSign 6 = .ok (.ifCond .ne 12, 3) := by decide +kernel
theorem d_Rd_isSign_9 : decode b_Rd_isSign 9 = .ok (.aload_n 0, 1) := by decide +kernel
theorem d_Rd_isSign_10 : decode b_Rd_isSign 10 = .ok (.bipush 45, 2) := by decide +kernel
theorem d_Rd_isSign_12 : decode b_Rd_isSign 12 = .ok (.invokevirtual 106, 3) := by decide +kernel
theorem d_Rd_isSign_15 : decode b_Rd_isSign 15 = .ok (.ifCond .eq 7, 3) := by decide +kernel
theorem d_Rd_isSign_22 : decode b_Rd_isSign 22 = .ok (.iconst 0, 1) := by decide +kernel
theorem d_Rd_readSign_33 : decode b_Rd_readSign 33 = .ok (.invokevirtual 98, 3) := by decide +kernel
theorem d_Rd_readSign_36 : decode b_Rd_readSign 36 = .ok (.aload_n 0, 1) := by decide +kernel
theorem d_Rd_readSign_37 : decode b_Rd_readSign 37 = .ok (.invokevirtual 38, 3) := by decide +kernel
theorem d_Rd_readSign_40 : decode b_Rd_readSign 40 = .ok (.iconst 1, 1) := by decide +kernel
theorem d_Rd_readSign_41 : decode b_Rd_readSign 41 = .ok (.ireturn, 1) := by decide +kernel
theorem d_Rd_readSign_0 : decode b_Rd_readSign 0 = .ok (.aload_n 0, 1) := by decide +kernel
theorem d_Rd_readSign_1 : decode b_Rd_readSign 1 = .ok (.invokevirtual 87, 3) := by decide +kernel
theorem d_Rd_readSign_4 : decode b_Rd_readSign 4 = .ok (.ifCond .ne 9, 3) := by decide +kernel
theorem d_Rd_readSign_13 : decode b_Rd_readSign 13 = .ok (.aload_n 0, 1) := by decide +kernel
theorem d_Rd_readSign_14 : decode b_Rd_readSign 14 = .ok (.getfield 18, 3) := by decide +kernel
theorem d_Rd_readSign_17 : decode b_Rd_readSign 17 = .ok (.aload_n 0, 1) := by decide +kernel
theorem d_Rd_readSign_18 : decode b_Rd_readSign 18 = .ok (.bipush 45, 2) := by decide +kernel
theorem d_Rd_readSign_20 : decode b_Rd_readSign 20 = .ok (.invokevirtual 106, 3) := by decide +kernel
theorem d_Rd_readSign_23 : decode b_Rd_readSign 23 = .ok (.ifCond .eq 9, 3) := by decide +kernel
theorem d_Rd_readSign_32 : decode b_Rd_readSign 32 = .ok (.lconst 1, 1) := by decide +kernel
theorem d_Rd_readSign_26 : decode b_Rd_readSign 26 = .ok (.ldc2_w 123, 3) := by decide +kernel
theorem d_Rd_readSign_29 : decode b_Rd_readSign 29 = .ok (.goto 4, 3) := by decide +kernel
theorem d_Rd_readSign_7 : decode b_Rd_readSign 7 = .ok (.aload_n 0, 1) := by decide +kernel
theorem d_Rd_readSign_8 : decode b_Rd_readSign 8 = .ok (.iconst 4, 1) := by decide +kernel
theorem d_Rd_readSign_9 : decode b_Rd_readSign 9 = .ok (.invokevirtual 51, 3) := by decide +kernel
theorem d_Rd_readSign_12 : decode b_Rd_readSign 12 = .ok (.ireturn, 1) := by decide +kernel
theorem d_Rd_readMark_0 : decode b_Rd_readMark 0 = .ok (.aload_n 0, 1) := by decide +kernel
theorem d_Rd_readMark_1 : decode b_Rd_readMark 1 = .ok (.iload_n 1, 1) := by decide +kernel
theorem d_Rd_readMark_2 : decode b_Rd_readMark 2 = .ok (.invokevirtual 106, 3) := by decide +kernel
theorem d_Rd_readMark_5 : decode b_Rd_readMark 5 = .ok (.ifCond .ne 9, 3) := by decide +kernel
theorem d_Rd_readMark_14 : decode b_Rd_readMark 14 = .ok (.aload_n 0, 1) := by decide +kernel
theorem d_Rd_readMark_15 : decode b_Rd_readMark 15 = .ok (.invokevirtual 38, 3) := by decide +kernel
theorem d_Rd_readMark_18 : decode b_Rd_readMark 18 = .ok (.iconst 1, 1) := by decide +kernel
theorem d_Rd_readMark_19 : decode b_Rd_readMark 19 = .ok (.ireturn, 1) := by decide +kernel
theorem d_Rd_readMark_8 : decode b_Rd_readMark 8 = .ok (.aload_n 0, 1) := by decide +kernel
theorem d_Rd_readMark_9 : decode b_Rd_readMark 9 = .ok (.iconst 4, 1) := by decide +kernel
theorem d_Rd_readMark_10 : decode b_Rd_readMark 10 = .ok (.invokevirtual 51, 3) := by decide +kernel
theorem d_Rd_readMark_13 : decode b_Rd_readMark 13 = .ok (.ireturn, 1) := by decide +kernel
theorem d_Rd_readNumber_47 : decode b_Rd_readNumber 47 = .ok (.aload_n 0, 1) := by decide +kernel
theorem d_Rd_readNumber_48 : decode b_Rd_readNumber 48 = .ok (.iconst 4, 1) := by decide +kernel
theorem d_Rd_readNumber_49 : decode b_Rd_readNumber 49 = .ok (.invokevirtual 51, 3) := by decide +kernel
theorem d_Rd_readNumber_52 : decode b_Rd_readNumber 52 = .ok (.ireturn, 1) := by decide +kernel
theorem d_Rd_readNumber_21 : decode b_Rd_readNumber 21 = .ok (.aload_n 0, 1) := by decide +kernel
theorem d_Rd_readNumber_22 : decode b_Rd_readNumber 22 = .ok (.getfield 41, 3) := by decide +kernel
theorem d_Rd_readNumber_25 : decode b_Rd_readNumber 25 = .ok (.iconst 3, 1) := by decide +kernel
theorem d_Rd_readNumber_26 : decode b_Rd_readNumber 26 = .ok (.if_icmp .ne 21, 3) := by decide +kernel
theorem d_Rd_readNumber_29 : decode b_Rd_readNumber 29 = .ok (.aload_n 0, 1) := by decide +kernel
theorem d_Rd_readNumber_30 : decode b_Rd_readNumber 30 = .ok (.getfield 113, 3) := by decide +kernel
theorem d_Rd_readNumber_33 : decode b_Rd_readNumber 33 = .ok (.ifCond .ne 14, 3) := by decide +kernel
theorem d_Rd_readNumber_36 : decode b_Rd_readNumber 36 = .ok (.aload_n 0, 1) := by decide +kernel
theorem d_Rd_readNumber_37 : decode b_Rd_readNumber 37 = .ok (.getfield 117, 3) := by decide +kernel
theorem d_Rd_readNumber_40 : decode b_Rd_readNumber 40 = .ok (.ldc2_w 121, 3) := by decide +kernel
theorem d_Rd_readNumber_43 : decode b_Rd_readNumber 43 = .ok (.lcmp, 1) := by decide +kernel
theorem d_Rd_readNumber_44 : decode b_Rd_readNumber 44 = .ok (.ifCond .le 9, 3) := by decide +kernel
theorem d_Rd_readNumber_53 : decode b_Rd_readNumber 53 = .ok (.aload_n 0, 1) := by decide +kernel
theorem d_Rd_readNumber_54 : decode b_Rd_readNumber 54 = .ok (.getfield 18, 3) := by decide +kernel
theorem d_Rd_readNumber_57 : decode b_Rd_readNumber 57 = .ok (.iload_n 2, 1) := by decide +kernel
theorem d_Rd_readNumber_58 : decode b_Rd_readNumber 58 = .ok (.i2l, 1) := by decide +kernel
theorem d_Rd_readNumber_59 : decode b_Rd_readNumber 59 = .ok (.aload_n 0, 1) := by decide +kernel
theorem d_Rd_readNumber_60 : decode b_Rd_readNumber 60 = .ok (.getfield 117, 3) := by decide +kernel
theorem d_Rd_readNumber_63 : decode b_Rd_readNumber 63 = .ok (.lmul, 1) := by decide +kernel
theorem d_Rd_readNumber_64 : decode b_Rd_readNumber 64 = .ok (.invokevirtual 98, 3) := by decide +kernel
theorem d_Rd_readNumber_67 : decode b_Rd_readNumber 67 = .ok (.aload_n 0, 1) := by decide +kernel
theorem d_Rd_readNumber_68 : decode b_Rd_readNumber 68 = .ok (.invokevirtual 38, 3) := by decide +kernel
theorem d_Rd_readNumber_71 : decode b_Rd_readNumber 71 = .ok (.iconst 1, 1) := by decide +kernel
theorem d_Rd_readNumber_72 : decode b_Rd_readNumber 72 = .ok (.ireturn, 1) := by decide +kernel
theorem d_Rd_readNumber_0 : decode b_Rd_readNumber 0 = .ok (.iconst 1, 1) := by decide +kernel
theorem d_Rd_readNumber_1 : decode b_Rd_readNumber 1 = .ok (.istore_n 2, 1) := by decide +kernel
theorem d_Rd_readNumber_2 : decode b_Rd_readNumber 2 = .ok (.iload_n 1, 1) := by decide +kernel
theorem d_Rd_readNumber_3 : decode b_Rd_readNumber 3 = .ok (.ifCond .eq 18, 3) := by decide +kernel
theorem d_Rd_readNumber_6 : decode b_Rd_readNumber 6 = .ok (.aload_n 0, 1) := by decide +kernel
theorem d_Rd_readNumber_7 : decode b_Rd_readNumber 7 = .ok (.bipush 45, 2) := by decide +kernel
theorem d_Rd_readNumber_9 : decode b_Rd_readNumber 9 = .ok (.invokevirtual 106, 3) := by decide +kernel
theorem d_Rd_readNumber_12 : decode b_Rd_readNumber 12 = .ok (.ifCond .eq 9, 3) := by decide +kernel
theorem d_Rd_readNumber_15 : decode b_Rd_readNumber 15 = .ok (.iconst (-1), 1) := by decide +kernel
theorem d_Rd_readNumber_16 : decode b_Rd_readNumber 16 = .ok (.istore_n 2, 1) := by decide +kernel
theorem d_Rd_readNumber_17 : decode b_Rd_readNumber 17 = .ok (.aload_n 0, 1) := by decide +kernel
theorem d_Rd_readNumber_18 : decode b_Rd_readNumber 18 = .ok (.invokevirtual 38, 3) := by decide +kernel
theorem d_Rd_readLetters_25 : decode b_Rd_readLetters 25 = .ok (.iload_n 1, 1) := by decide +kernel
theorem d_Rd_readLetters_26 : decode b_Rd_readLetters 26 = .ok (.bipush 32, 2) := by decide +kernel
theorem d_Rd_readLetters_28 : decode b_Rd_readLetters 28 = .ok (.if_icmp .ne 9, 3) := by decide +kernel
theorem d_Rd_readLetters_37 : decode b_Rd_readLetters 37 = .ok (.aload_n 0, 1) := by decide +kernel
theorem d_Rd_readLetters_38 : decode b_Rd_readLetters 38 = .ok (.iconst 1, 1) := by decide +kernel
theorem d_Rd_readLetters_39 : decode b_Rd_readLetters 39 = .ok (.invokevirtual 66, 3) := by decide +kernel
theorem d_Rd_readLetters_42 : decode b_Rd_readLetters 42 = .ok (.ifCond .ne 5, 3) := by decide +kernel
theorem d_Rd_readLetters_47 : decode b_Rd_readLetters 47 = .ok (.iinc 1 1, 3) := by decide +kernel
theorem d_Rd_readLetters_50 : decode b_Rd_readLetters 50 = .ok (.goto (-48), 3) := by decide +kernel
theorem d_Rd_readLetters_45 : decode b_Rd_readLetters 45 = .ok (.iconst 0, 1) := by decide +kernel
theorem d_Rd_readLetters_46 : decode b_Rd_readLetters 46 = .ok (.ireturn, 1) := by decide +kernel
theorem d_Rd_readLetters_31 : decode b_Rd_readLetters 31 = .ok (.aload_n 0, 1) := by decide +kernel
theorem d_Rd_readLetters_32 : decode b_Rd_readLetters 32 = .ok (.iconst 5, 1) := by decide +kernel
theorem d_Rd_readLetters_33 : decode b_Rd_readLetters 33 = .ok (.invokevirtual 51, 3) := by decide +kernel
theorem d_Rd_readLetters_36 : decode b_Rd_readLetters 36 = .ok (.ireturn, 1) := by decide +kernel
theorem d_Rd_readLetters_2 : decode b_Rd_readLetters 2 = .ok (.iload_n 1, 1) := by decide +kernel
theorem d_Rd_readLetters_3 : decode b_Rd_readLetters 3 = .ok (.bipush 32, 2) := by decide +kernel
theorem d_Rd_readLetters_5 : decode b_Rd_readLetters 5 = .ok (.if_icmp .gt 48, 3) := by decide +kernel
theorem d_Rd_readLetters_53 : decode b_Rd_readLetters 53 = .ok (.iconst 1, 1) := by decide +kernel
theorem d_Rd_readLetters_54 : decode b_Rd_readLetters 54 = .ok (.ireturn, 1) := by decide +kernel
theorem d_Rd_readLetters_8 : decode b_Rd_readLetters 8 = .ok (.aload_n 0, 1) := by decide +kernel
theorem d_Rd_readLetters_9 : decode b_Rd_readLetters 9 = .ok (.getfield 41, 3) := by decide +kernel
theorem d_Rd_readLetters_12 : decode b_Rd_readLetters 12 = .ok (.iconst 3, 1) := by decide +kernel
theorem d_Rd_readLetters_13 : decode b_Rd_readLetters 13 = .ok (.if_icmp .eq 12, 3) := by decide +kernel
theorem d_Rd_readLetters_16 : decode b_Rd_readLetters 16 = .ok (.aload_n 0, 1) := by decide +kernel
theorem d_Rd_readLetters_17 : decode b_Rd_readLetters 17 = .ok (.bipush 45, 2) := by decide +kernel
theorem d_Rd_readLetters_19 : decode b_Rd_readLetters 19 = .ok (.invokevirtual 106, 3) := by decide +kernel
theorem d_Rd_readLetters_22 : decode b_Rd_readLetters 22 = .ok (.ifCond .eq 31, 3) := by decide +kernel
theorem d_Rd_readLetters_0 : decode b_Rd_readLetters 0 = .ok (.iconst 0, 1) := by decide +kernel
theorem d_Rd_readLetters_1 : decode b_Rd_readLetters 1 = .ok (.istore_n 1, 1) := by decide +kernel
theorem d_En_mayDoNext_44 : decode b_En_mayDoNext 44 = .ok (.iconst 1, 1) := by decide +kernel
theorem d_En_mayDoNext_45 : decode b_En_mayDoNext 45 = .ok (.goto 4, 3) := by decide +kernel
theorem d_En_mayDoNext_49 : decode b_En_mayDoNext 49 = .ok (.ireturn, 1) := by decide +kernel
theorem d_En_mayDoNext_10 : decode b_En_mayDoNext 10 = .ok (.aload_n 0, 1) := by decide +kernel
theorem d_En_mayDoNext_11 : decode b_En_mayDoNext 11 = .ok (.getfield 201, 3) := by decide +kernel
theorem d_En_mayDoNext_14 : decode b_En_mayDoNext 14 = .ok (.sipush 2000, 3) := by decide +kernel
theorem d_En_mayDoNext_17 : decode b_En_mayDoNext 17 = .ok (.if_icmp .lt 5, 3) := by decide +kernel
theorem d_En_mayDoNext_22 : decode b_En_mayDoNext 22 = .ok (.aload_n 0, 1) := by decide +kernel
theorem d_En_mayDoNext_23 : decode b_En_mayDoNext 23 = .ok (.getfield 27, 3) := by decide +kernel
theorem d_En_mayDoNext_26 : decode b_En_mayDoNext 26 = .ok (.invokevirtual 135, 3) := by decide +kernel
theorem d_En_mayDoNext_29 : decode b_En_mayDoNext 29 = .ok (.bipush 16, 2) := by decide +kernel
theorem d_En_mayDoNext_31 : decode b_En_mayDoNext 31 = .ok (.if_icmp .lt 13, 3) := by decide +kernel
theorem d_En_mayDoNext_34 : decode b_En_mayDoNext 34 = .ok (.aload_n 0, 1) := by decide +kernel
theorem d_En_mayDoNext_35 : decode b_En_mayDoNext 35 = .ok (.getfield 204, 3) := by decide +kernel
theorem d_En_mayDoNext_38 : decode b_En_mayDoNext 38 = .ok (.sipush 200, 3) := by decide +kernel
theorem d_En_mayDoNext_41 : decode b_En_mayDoNext 41 = .ok (.if_icmp .ge 7, 3) := by decide +kernel
theorem d_En_mayDoNext_48 : decode b_En_mayDoNext 48 = .ok (.iconst 0, 1) := by decide +kernel
theorem d_Li_number_0 : decode b_Li_number 0 = .ok (.aload_n 0, 1) := by decide +kernel
theorem d_Li_number_1 : decode b_Li_number 1 = .ok (.iload_n 1, 1) := by decide +kernel
theorem d_Li_number_2 : decode b_Li_number 2 = .ok (.invokevirtual 29, 3) := by decide +kernel
theorem d_Li_number_5 : decode b_Li_number 5 = .ok (.l2i, 1) := by decide +kernel
theorem d_Li_number_6 : decode b_Li_number 6 = .ok (.ireturn, 1) := by decide +kernel
theorem d_Sh_labelsArePaired_73 : decode b_Sh_labelsArePaired 73 = .ok (.aload_n 0, 1) := by decide +kernel
theorem d_Sh_labelsArePaired_74 : decode b_Sh_labelsArePaired 74 = .ok (.iconst 1, 1) := by decide +kernel
theorem d_Sh_labelsArePaired_75 : decode b_Sh_labelsArePaired 75 = .ok (.iload_n 3, 1) := by decide +kernel
theorem d_Sh_labelsArePaired_76 : decode b_Sh_labelsArePaired 76 = .ok (.invokevirtual 79, 3) := by decide +kernel
theorem d_Sh_labelsArePaired_79 : decode b_Sh_labelsArePaired 79 = .ok (.ireturn, 1) := by decide +kernel
theorem d_Sh_labelsArePaired_61 : decode b_Sh_labelsArePaired 61 = .ok (.istore 5, 2) := by decide +kernel
theorem d_Sh_labelsArePaired_63 : decode b_Sh_labelsArePaired 63 = .ok (.iload 4, 2) := by decide +kernel
theorem d_Sh_labelsArePaired_65 : decode b_Sh_labelsArePaired 65 = .ok (.ifCond .ne 8, 3) := by decide +kernel
theorem d_Sh_labelsArePaired_68 : decode b_Sh_labelsArePaired 68 = .ok (.iload 5, 2) := by decide +kernel
theorem d_Sh_labelsArePaired_70 : decode b_Sh_labelsArePaired 70 = .ok (.ifCond .eq 10, 3) := by decide +kernel
theorem d_Sh_labelsArePaired_80 : decode b_Sh_labelsArePaired 80 = .ok (.iinc 2 2, 3) := by decide +kernel
theorem d_Sh_labelsArePaired_83 : decode b_Sh_labelsArePaired 83 = .ok (.goto (-81), 3) := by decide +kernel
theorem d_Sh_labelsArePaired_60 : decode b_Sh_labelsArePaired 60 = .ok (.iconst 0, 1) := by decide +kernel
theorem d_Sh_labelsArePaired_36 : decode b_Sh_labelsArePaired 36 = .ok (.istore 4, 2) := by decide +kernel
theorem d_Sh_labelsArePaired_38 : decode b_Sh_labelsArePaired 38 = .ok (.iload_n 2, 1) := by decide +kernel
theorem d_Sh_labelsArePaired_39 : decode b_Sh_labelsArePaired 39 = .ok (.iconst 2, 1) := by decide +kernel
theorem d_Sh_labelsArePaired_40 : decode b_Sh_labelsArePaired 40 = .ok (.iadd, 1) := by decide +kernel
theorem d_Sh_labelsArePaired_41 : decode b_Sh_labelsArePaired 41 = .ok (.iload_n 1, 1) := by decide +kernel
theorem d_Sh_labelsArePaired_42 : decode b_Sh_labelsArePaired 42 = .ok (.if_icmp .ge 18, 3) := by decide +kernel
theorem d_Sh_labelsArePaired_45 : decode b_Sh_labelsArePaired 45 = .ok (.aload_n 0, 1) := by decide +kernel
theorem d_Sh_labelsArePaired_46 : decode b_Sh_labelsArePaired 46 = .ok (.iload_n 2, 1) := by decide +kernel
theorem d_Sh_labelsArePaired_47 : decode b_Sh_labelsArePaired 47 = .ok (.iconst 2, 1) := by decide +kernel
theorem d_Sh_labelsArePaired_48 : decode b_Sh_labelsArePaired 48 = .ok (.iadd, 1) := by decide +kernel
theorem d_Sh_labelsArePaired_49 : decode b_Sh_labelsArePaired 49 = .ok (.invokevirtual 75, 3) := by decide +kernel
theorem d_Sh_labelsArePaired_52 : decode b_Sh_labelsArePaired 52 = .ok (.iload_n 3, 1) := by decide +kernel
theorem d_Sh_labelsArePaired_53 : decode b_Sh_labelsArePaired 53 = .ok (.if_icmp .ne 7, 3) := by decide +kernel
theorem d_Sh_labelsArePaired_56 : decode b_Sh_labelsArePaired 56 = .ok (.iconst 1, 1) := by decide +kernel
theorem d_Sh_labelsArePaired_57 : decode b_Sh_labelsArePaired 57 = .ok (.goto 4, 3) := by decide +kernel
theorem d_Sh_labelsArePaired_31 : decode b_Sh_labelsArePaired 31 = .ok (.iconst 1, 1) := by decide +kernel
theorem d_Sh_labelsArePaired_32 : decode b_Sh_labelsArePaired 32 = .ok (.goto 4, 3) := by decide +kernel
