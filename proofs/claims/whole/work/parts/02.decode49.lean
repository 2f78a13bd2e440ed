theorem d_Md_look_231 : decode b_Md_look 231 = .ok (.aload_n 0, 1) := by decide +kernel
theorem d_Md_look_232 : decode b_Md_look 232 = .ok (.getfield 129, 3) := by decide +kernel
theorem d_Md_look_235 : decode b_Md_look 235 = .ok (.iconst 2, 1) := by decide +kernel
theorem d_Md_look_236 : decode b_Md_look 236 = .ok (.if_icmp .ne 31, 3) := by decide +kernel
theorem d_Md_look_239 : decode b_Md_look 239 = .ok (.aload_n 0, 1) := by decide +kernel
theorem d_Md_look_240 : decode b_Md_look 240 = .ok (.getfield 16, 3) := by decide +kernel
theorem d_Md_look_243 : decode b_Md_look 243 = .ok (.aload_n 0, 1) := by decide +kernel
theorem d_Md_look_244 : decode b_Md_look 244 = .ok (.getfield 132, 3) := by decide +kernel
theorem d_Md_look_247 : decode b_Md_look 247 = .ok (.baload, 1) := by decide +kernel
theorem d_Md_look_248 : decode b_Md_look 248 = .ok (.invokestatic 149, 3) := by decide +kernel
theorem d_Md_look_251 : decode b_Md_look 251 = .ok (.ifCond .eq 16, 3) := by decide +kernel
theorem d_Md_look_254 : decode b_Md_look 254 = .ok (.aload_n 0, 1) := by decide +kernel
theorem d_Md_look_255 : decode b_Md_look 255 = .ok (.dup, 1) := by decide +kernel
theorem d_Md_look_256 : decode b_Md_look 256 = .ok (.getfield 132, 3) := by decide +kernel
theorem d_Md_look_259 : decode b_Md_look 259 = .ok (.iconst 1, 1) := by decide +kernel
theorem d_Md_look_260 : decode b_Md_look 260 = .ok (.iadd, 1) := by decide +kernel
theorem d_Md_look_261 : decode b_Md_look 261 = .ok (.putfield 132, 3) := by decide +kernel
theorem d_Md_look_264 : decode b_Md_look 264 = .ok (.goto (-67), 3) := by decide +kernel
theorem d_Md_look_267 : decode b_Md_look 267 = .ok (.return_, 1) := by decide +kernel
theorem d_Md_loose_0 : decode b_Md_loose 0 = .ok (.iconst 0, 1) := by decide +kernel
theorem d_Md_loose_1 : decode b_Md_loose 1 = .ok (.istore_n 1, 1) := by decide +kernel
theorem d_Md_loose_2 : decode b_Md_loose 2 = .ok (.iconst 0, 1) := by decide +kernel
theorem d_Md_loose_3 : decode b_Md_loose 3 = .ok (.istore_n 2, 1) := by decide +kernel
theorem d_Md_loose_4 : decode b_Md_loose 4 = .ok (.iload_n 2, 1) := by decide +kernel
theorem d_Md_loose_5 : decode b_Md_loose 5 = .ok (.iconst 4, 1) := by decide +kernel
theorem d_Md_loose_6 : decode b_Md_loose 6 = .ok (.aload_n 0, 1) := by decide +kernel
theorem d_Md_loose_7 : decode b_Md_loose 7 = .ok (.getfield 37, 3) := by decide +kernel
theorem d_Md_loose_10 : decode b_Md_loose 10 = .ok (.getfield 312, 3) := by decide +kernel
theorem d_Md_loose_13 : decode b_Md_loose 13 = .ok (.imul, 1) := by decide +kernel
theorem d_Md_loose_14 : decode b_Md_loose 14 = .ok (.if_icmp .ge 43, 3) := by decide +kernel
theorem d_Md_loose_17 : decode b_Md_loose 17 = .ok (.aload_n 0, 1) := by decide +kernel
theorem d_Md_loose_18 : decode b_Md_loose 18 = .ok (.getfield 37, 3) := by decide +kernel
theorem d_Md_loose_21 : decode b_Md_loose 21 = .ok (.getfield 318, 3) := by decide +kernel
theorem d_Md_loose_24 : decode b_Md_loose 24 = .ok (.iload_n 2, 1) := by decide +kernel
theorem d_Md_loose_25 : decode b_Md_loose 25 = .ok (.iaload, 1) := by decide +kernel
theorem d_Md_loose_26 : decode b_Md_loose 26 = .ok (.istore_n 3, 1) := by decide +kernel
theorem d_Md_loose_27 : decode b_Md_loose 27 = .ok (.aload_n 0, 1) := by decide +kernel
theorem d_Md_loose_28 : decode b_Md_loose 28 = .ok (.iload_n 3, 1) := by decide +kernel
theorem d_Md_loose_29 : decode b_Md_loose 29 = .ok (.invokevirtual 348, 3) := by decide +kernel
theorem d_Md_loose_32 : decode b_Md_loose 32 = .ok (.iconst 2, 1) := by decide +kernel
theorem d_Md_loose_33 : decode b_Md_loose 33 = .ok (.if_icmp .eq 16, 3) := by decide +kernel
theorem d_Md_loose_36 : decode b_Md_loose 36 = .ok (.iload_n 1, 1) := by decide +kernel
theorem d_Md_loose_37 : decode b_Md_loose 37 = .ok (.ifCond .eq 8, 3) := by decide +kernel
theorem d_Md_loose_40 : decode b_Md_loose 40 = .ok (.iload_n 3, 1) := by decide +kernel
theorem d_Md_loose_41 : decode b_Md_loose 41 = .ok (.iload_n 1, 1) := by decide +kernel
theorem d_Md_loose_42 : decode b_Md_loose 42 = .ok (.if_icmp .ge 7, 3) := by decide +kernel
theorem d_Md_loose_45 : decode b_Md_loose 45 = .ok (.iload_n 3, 1) := by decide +kernel
theorem d_Md_loose_46 : decode b_Md_loose 46 = .ok (.goto 4, 3) := by decide +kernel
theorem d_Md_loose_49 : decode b_Md_loose 49 = .ok (.iload_n 1, 1) := by decide +kernel
theorem d_Md_loose_50 : decode b_Md_loose 50 = .ok (.istore_n 1, 1) := by decide +kernel
theorem d_Md_loose_51 : decode b_Md_loose 51 = .ok (.iinc 2 1, 3) := by decide +kernel
theorem d_Md_loose_54 : decode b_Md_loose 54 = .ok (.goto (-50), 3) := by decide +kernel
theorem d_Md_loose_57 : decode b_Md_loose 57 = .ok (.iload_n 1, 1) := by decide +kernel
theorem d_Md_loose_58 : decode b_Md_loose 58 = .ok (.ireturn, 1) := by decide +kernel
theorem d_Md_lower_0 : decode b_Md_lower 0 = .ok (.aload_n 0, 1) := by decide +kernel
theorem d_Md_lower_1 : decode b_Md_lower 1 = .ok (.invokestatic 466, 3) := by decide +kernel
theorem d_Md_lower_4 : decode b_Md_lower 4 = .ok (.ifCond .ge 4, 3) := by decide +kernel
theorem d_Md_lower_7 : decode b_Md_lower 7 = .ok (.return_, 1) := by decide +kernel
theorem d_Md_lower_8 : decode b_Md_lower 8 = .ok (.aload_n 0, 1) := by decide +kernel
theorem d_Md_lower_9 : decode b_Md_lower 9 = .ok (.iconst 0, 1) := by decide +kernel
theorem d_Md_lower_10 : decode b_Md_lower 10 = .ok (.laload, 1) := by decide +kernel
theorem d_Md_lower_11 : decode b_Md_lower 11 = .ok (.lconst 0, 1) := by decide +kernel
theorem d_Md_lower_12 : decode b_Md_lower 12 = .ok (.lcmp, 1) := by decide +kernel
theorem d_Md_lower_13 : decode b_Md_lower 13 = .ok (.ifCond .ne 33, 3) := by decide +kernel
theorem d_Md_lower_16 : decode b_Md_lower 16 = .ok (.iconst 0, 1) := by decide +kernel
theorem d_Md_lower_17 : decode b_Md_lower 17 = .ok (.istore_n 1, 1) := by decide +kernel
theorem d_Md_lower_18 : decode b_Md_lower 18 = .ok (.iload_n 1, 1) := by decide +kernel
theorem d_Md_lower_19 : decode b_Md_lower 19 = .ok (.bipush 15, 2) := by decide +kernel
theorem d_Md_lower_21 : decode b_Md_lower 21 = .ok (.if_icmp .ge 17, 3) := by decide +kernel
theorem d_Md_lower_24 : decode b_Md_lower 24 = .ok (.aload_n 0, 1) := by decide +kernel
theorem d_Md_lower_25 : decode b_Md_lower 25 = .ok (.iload_n 1, 1) := by decide +kernel
theorem d_Md_lower_26 : decode b_Md_lower 26 = .ok (.aload_n 0, 1) := by decide +kernel
theorem d_Md_lower_27 : decode b_Md_lower 27 = .ok (.iload_n 1, 1) := by decide +kernel
theorem d_Md_lower_28 : decode b_Md_lower 28 = .ok (.iconst 1, 1) := by decide +kernel
theorem d_Md_lower_29 : decode b_Md_lower 29 = .ok (.iadd, 1) := by decide +kernel
theorem d_Md_lower_30 : decode b_Md_lower 30 = .ok (.laload, 1) := by decide +kernel
theorem d_Md_lower_31 : decode b_Md_lower 31 = .ok (.lastore, 1) := by decide +kernel
theorem d_Md_lower_32 : decode b_Md_lower 32 = .ok (.iinc 1 1, 3) := by decide +kernel
theorem d_Md_lower_35 : decode b_Md_lower 35 = .ok (.goto (-17), 3) := by decide +kernel
theorem d_Md_lower_38 : decode b_Md_lower 38 = .ok (.aload_n 0, 1) := by decide +kernel
theorem d_Md_lower_39 : decode b_Md_lower 39 = .ok (.bipush 15, 2) := by decide +kernel
theorem d_Md_lower_41 : decode b_Md_lower 41 = .ok (.lconst 0, 1) := by decide +kernel
theorem d_Md_lower_42 : decode b_Md_lower 42 = .ok (.lastore, 1) := by decide +kernel
theorem d_Md_lower_43 : decode b_Md_lower 43 = .ok (.goto (-35), 3) := by decide +kernel
theorem d_Md_lower_46 : decode b_Md_lower 46 = .ok (.return_, 1) := by decide +kernel
theorem d_Md_many_0 : decode b_Md_many 0 = .ok (.aload_n 0, 1) := by decide +kernel
theorem d_Md_many_1 : decode b_Md_many 1 = .ok (.getfield 27, 3) := by decide +kernel
theorem d_Md_many_4 : decode b_Md_many 4 = .ok (.aload_n 0, 1) := by decide +kernel
theorem d_Md_many_5 : decode b_Md_many 5 = .ok (.getfield 290, 3) := by decide +kernel
theorem d_Md_many_8 : decode b_Md_many 8 = .ok (.iconst 1, 1) := by decide +kernel
theorem d_Md_many_9 : decode b_Md_many 9 = .ok (.iadd, 1) := by decide +kernel
theorem d_Md_many_10 : decode b_Md_many 10 = .ok (.iaload, 1) := by decide +kernel
theorem d_Md_many_11 : decode b_Md_many 11 = .ok (.aload_n 0, 1) := by decide +kernel
theorem d_Md_many_12 : decode b_Md_many 12 = .ok (.getfield 27, 3) := by decide +kernel
theorem d_Md_many_15 : decode b_Md_many 15 = .ok (.aload_n 0, 1) := by decide +kernel
theorem d_Md_many_16 : decode b_Md_many 16 = .ok (.getfield 290, 3) := by decide +kernel
theorem d_Md_many_19 : decode b_Md_many 19 = .ok (.iaload, 1) := by decide +kernel
theorem d_Md_many_20 : decode b_Md_many 20 = .ok (.isub, 1) := by decide +kernel
theorem d_Md_many_21 : decode b_Md_many 21 = .ok (.ireturn, 1) := by decide +kernel
theorem d_Md_measure_0 : decode b_Md_measure 0 = .ok (.aload_n 0, 1) := by decide +kernel
theorem d_Md_measure_1 : decode b_Md_measure 1 = .ok (.getfield 37, 3) := by decide +kernel
theorem d_Md_measure_4 : decode b_Md_measure 4 = .ok (.getfield 354, 3) := by decide +kernel
theorem d_Md_measure_7 : decode b_Md_measure 7 = .ok (.bipush 9, 2) := by decide +kernel
theorem d_Md_measure_9 : decode b_Md_measure 9 = .ok (.if_icmp .gt 15, 3) := by decide +kernel
theorem d_Md_measure_12 : decode b_Md_measure 12 = .ok (.aload_n 0, 1) := by decide +kernel
theorem d_Md_measure_13 : decode b_Md_measure 13 = .ok (.getfield 37, 3) := by decide +kernel
theorem d_Md_measure_16 : decode b_Md_measure 16 = .ok (.getfield 312, 3) := by decide +kernel
theorem d_Md_measure_19 : decode b_Md_measure 19 = .ok (.bipush 10, 2) := by decide +kernel
theorem d_Md_measure_21 : decode b_Md_measure 21 = .ok (.if_icmp .le 11, 3) := by decide +kernel
theorem d_Md_measure_24 : decode b_Md_measure 24 = .ok (.aload_n 0, 1) := by decide +kernel
theorem d_Md_measure_25 : decode b_Md_measure 25 = .ok (.ldc_w 609, 3) := by decide +kernel
theorem d_Md_measure_28 : decode b_Md_measure 28 = .ok (.invokevirtual 527, 3) := by decide +kernel
theorem d_Md_measure_31 : decode b_Md_measure 31 = .ok (.return_, 1) := by decide +kernel
theorem d_Md_measure_32 : decode b_Md_measure 32 = .ok (.iload_n 1, 1) := by decide +kernel
theorem d_Md_measure_33 : decode b_Md_measure 33 = .ok (.bipush 16, 2) := by decide +kernel
theorem d_Md_measure_35 : decode b_Md_measure 35 = .ok (.if_icmp .ne 10, 3) := by decide +kernel
theorem d_Md_measure_38 : decode b_Md_measure 38 = .ok (.aload_n 0, 1) := by decide +kernel
theorem d_Md_measure_39 : decode b_Md_measure 39 = .ok (.invokevirtual 454, 3) := by decide +kernel
theorem d_Md_measure_42 : decode b_Md_measure 42 = .ok (.goto 20, 3) := by decide +kernel
theorem d_Md_measure_45 : decode b_Md_measure 45 = .ok (.iload_n 1, 1) := by decide +kernel
theorem d_Md_measure_46 : decode b_Md_measure 46 = .ok (.bipush 17, 2) := by decide +kernel
theorem d_Md_measure_48 : decode b_Md_measure 48 = .ok (.if_icmp .ne 10, 3) := by decide +kernel
theorem d_Md_measure_51 : decode b_Md_measure 51 = .ok (.aload_n 0, 1) := by decide +kernel
theorem d_Md_measure_52 : decode b_Md_measure 52 = .ok (.invokevirtual 610, 3) := by decide +kernel
theorem d_Md_measure_55 : decode b_Md_measure 55 = .ok (.goto 7, 3) := by decide +kernel
theorem d_Md_measure_58 : decode b_Md_measure 58 = .ok (.aload_n 0, 1) := by decide +kernel
theorem d_Md_measure_59 : decode b_Md_measure 59 = .ok (.invokevirtual 612, 3) := by decide +kernel
theorem d_Md_measure_62 : decode b_Md_measure 62 = .ok (.aload_n 0, 1) := by decide +kernel
theorem d_Md_measure_63 : decode b_Md_measure 63 = .ok (.invokevirtual 545, 3) := by decide +kernel
theorem d_Md_measure_66 : decode b_Md_measure 66 = .ok (.ifCond .ne 11, 3) := by decide +kernel
theorem d_Md_measure_69 : decode b_Md_measure 69 = .ok (.aload_n 0, 1) := by decide +kernel
theorem d_Md_measure_70 : decode b_Md_measure 70 = .ok (.iload_n 1, 1) := by decide +kernel
theorem d_Md_measure_71 : decode b_Md_measure 71 = .ok (.invokevirtual 614, 3) := by decide +kernel
theorem d_Md_measure_74 : decode b_Md_measure 74 = .ok (.goto 23, 3) := by decide +kernel
theorem d_Md_measure_77 : decode b_Md_measure 77 = .ok (.aload_n 0, 1) := by decide +kernel
theorem d_Md_measure_78 : decode b_Md_measure 78 = .ok (.aload_n 0, 1) := by decide +kernel
theorem d_Md_measure_79 : decode b_Md_measure 79 = .ok (.invokevirtual 617, 3) := by decide +kernel
theorem d_Md_measure_82 : decode b_Md_measure 82 = .ok (.ifCond .eq 9, 3) := by decide +kernel
theorem d_Md_measure_85 : decode b_Md_measure 85 = .ok (.ldc_w 620, 3) := by decide +kernel
theorem d_Md_measure_88 : decode b_Md_measure 88 = .ok (.goto 6, 3) := by decide +kernel
theorem d_Md_measure_91 : decode b_Md_measure 91 = .ok (.ldc_w 525, 3) := by decide +kernel
theorem d_Md_measure_94 : decode b_Md_measure 94 = .ok (.invokevirtual 527, 3) := by decide +kernel
theorem d_Md_measure_97 : decode b_Md_measure 97 = .ok (.return_, 1) := by decide +kernel
theorem d_Md_meet_0 : decode b_Md_meet 0 = .ok (.aload_n 0, 1) := by decide +kernel
theorem d_Md_meet_1 : decode b_Md_meet 1 = .ok (.getfield 120, 3) := by decide +kernel
theorem d_Md_meet_4 : decode b_Md_meet 4 = .ok (.invokestatic 474, 3) := by decide +kernel
theorem d_Md_meet_7 : decode b_Md_meet 7 = .ok (.aload_n 0, 1) := by decide +kernel
theorem d_Md_meet_8 : decode b_Md_meet 8 = .ok (.getfield 123, 3) := by decide +kernel
theorem d_Md_meet_11 : decode b_Md_meet 11 = .ok (.invokestatic 474, 3) := by decide +kernel
theorem d_Md_meet_14 : decode b_Md_meet 14 = .ok (.aload_n 0, 1) := by decide +kernel
theorem d_Md_meet_15 : decode b_Md_meet 15 = .ok (.getfield 123, 3) := by decide +kernel
theorem d_Md_meet_18 : decode b_Md_meet 18 = .ok (.invokestatic 466, 3) := by decide +kernel
theorem d_Md_meet_21 : decode b_Md_meet 21 = .ok (.ifCond .ge 4, 3) := by decide +kernel
theorem d_Md_meet_24 : decode b_Md_meet 24 = .ok (.return_, 1) := by decide +kernel
theorem d_Md_meet_25 : decode b_Md_meet 25 = .ok (.aload_n 0, 1) := by decide +kernel
theorem d_Md_meet_26 : decode b_Md_meet 26 = .ok (.getfield 120, 3) := by decide +kernel
theorem d_Md_meet_29 : decode b_Md_meet 29 = .ok (.invokestatic 466, 3) := by decide +kernel
theorem d_Md_meet_32 : decode b_Md_meet 32 = .ok (.ifCond .ge 30, 3) := by decide +kernel
theorem d_Md_meet_35 : decode b_Md_meet 35 = .ok (.iconst 0, 1) := by decide +kernel
theorem d_Md_meet_36 : decode b_Md_meet 36 = .ok (.istore_n 1, 1) := by decide +kernel
theorem d_Md_meet_37 : decode b_Md_meet 37 = .ok (.iload_n 1, 1) := by decide +kernel
theorem d_Md_meet_38 : decode b_Md_meet 38 = .ok (.bipush 16, 2) := by decide +kernel
theorem d_Md_meet_40 : decode b_Md_meet 40 = .ok (.if_icmp .ge 21, 3) := by decide +kernel
theorem d_Md_meet_43 : decode b_Md_meet 43 = .ok (.aload_n 0, 1) := by decide +kernel
theorem d_Md_meet_44 : decode b_Md_meet 44 = .ok (.getfield 120, 3) := by decide +kernel
theorem d_Md_meet_47 : decode b_Md_meet 47 = .ok (.iload_n 1, 1) := by decide +kernel
theorem d_Md_meet_48 : decode b_Md_meet 48 = .ok (.aload_n 0, 1) := by decide +kernel
theorem d_Md_meet_49 : decode b_Md_meet 49 = .ok (.getfield 123, 3) := by decide +kernel
theorem d_Md_meet_52 : decode b_Md_meet 52 = .ok (.iload_n 1, 1) := by decide +kernel
theorem d_Md_meet_53 : decode b_Md_meet 53 = .ok (.laload, 1) := by decide +kernel
theorem d_Md_meet_54 : decode b_Md_meet 54 = .ok (.lastore, 1) := by decide +kernel
theorem d_Md_meet_55 : decode b_Md_meet 55 = .ok (.iinc 1 1, 3) := by decide +kernel
theorem d_Md_meet_58 : decode b_Md_meet 58 = .ok (.goto (-21), 3) := by decide +kernel
theorem d_Md_meet_61 : decode b_Md_meet 61 = .ok (.return_, 1) := by decide +kernel
theorem d_Md_meet_62 : decode b_Md_meet 62 = .ok (.aload_n 0, 1) := by decide +kernel
theorem d_Md_meet_63 : decode b_Md_meet 63 = .ok (.getfield 120, 3) := by decide +kernel
theorem d_Md_meet_66 : decode b_Md_meet 66 = .ok (.invokestatic 478, 3) := by decide +kernel
theorem d_Md_meet_69 : decode b_Md_meet 69 = .ok (.aload_n 0, 1) := by decide +kernel
theorem d_Md_meet_70 : decode b_Md_meet 70 = .ok (.getfield 123, 3) := by decide +kernel
theorem d_Md_meet_73 : decode b_Md_meet 73 = .ok (.invokestatic 478, 3) := by decide +kernel
theorem d_Md_meet_76 : decode b_Md_meet 76 = .ok (.invokestatic 470, 3) := by decide +kernel
theorem d_Md_meet_79 : decode b_Md_meet 79 = .ok (.lstore_n 1, 1) := by decide +kernel
theorem d_Md_meet_80 : decode b_Md_meet 80 = .ok (.aload_n 0, 1) := by decide +kernel
theorem d_Md_meet_81 : decode b_Md_meet 81 = .ok (.getfield 120, 3) := by decide +kernel
theorem d_Md_meet_84 : decode b_Md_meet 84 = .ok (.aload_n 0, 1) := by decide +kernel
theorem d_Md_meet_85 : decode b_Md_meet 85 = .ok (.getfield 120, 3) := by decide +kernel
theorem d_Md_meet_88 : decode b_Md_meet 88 = .ok (.invokestatic 478, 3) := by decide +kernel
theorem d_Md_meet_91 : decode b_Md_meet 91 = .ok (.invokestatic 482, 3) := by decide +kernel
theorem d_Md_meet_94 : decode b_Md_meet 94 = .ok (.aload_n 0, 1) := by decide +kernel
theorem d_Md_meet_95 : decode b_Md_meet 95 = .ok (.getfield 123, 3) := by decide +kernel
theorem d_Md_meet_98 : decode b_Md_meet 98 = .ok (.aload_n 0, 1) := by decide +kernel
theorem d_Md_meet_99 : decode b_Md_meet 99 = .ok (.getfield 123, 3) := by decide +kernel
theorem d_Md_meet_102 : decode b_Md_meet 102 = .ok (.invokestatic 478, 3) := by decide +kernel
theorem d_Md_meet_105 : decode b_Md_meet 105 = .ok (.invokestatic 482, 3) := by decide +kernel
theorem d_Md_meet_108 : decode b_Md_meet 108 = .ok (.aload_n 0, 1) := by decide +kernel
theorem d_Md_meet_109 : decode b_Md_meet 109 = .ok (.getfield 120, 3) := by decide +kernel
theorem d_Md_meet_112 : decode b_Md_meet 112 = .ok (.invokestatic 466, 3) := by decide +kernel
theorem d_Md_meet_115 : decode b_Md_meet 115 = .ok (.ifCond .lt 58, 3) := by decide +kernel
theorem d_Md_meet_118 : decode b_Md_meet 118 = .ok (.aload_n 0, 1) := by decide +kernel
theorem d_Md_meet_119 : decode b_Md_meet 119 = .ok (.getfield 123, 3) := by decide +kernel
