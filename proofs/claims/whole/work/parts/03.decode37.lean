theorem d_Md_close_91 : decode b_Md_close 91 = .ok (.iaload, 1) := by decide +kernel
theorem d_Md_close_92 : decode b_Md_close 92 = .ok (.istore 7, 2) := by decide +kernel
theorem d_Md_close_94 : decode b_Md_close 94 = .ok (.iload_n 2, 1) := by decide +kernel
theorem d_Md_close_95 : decode b_Md_close 95 = .ok (.iconst 2, 1) := by decide +kernel
theorem d_Md_close_96 : decode b_Md_close 96 = .ok (.iload_n 3, 1) := by decide +kernel
theorem d_Md_close_97 : decode b_Md_close 97 = .ok (.imul, 1) := by decide +kernel
theorem d_Md_close_98 : decode b_Md_close 98 = .ok (.iadd, 1) := by decide +kernel
theorem d_Md_close_99 : decode b_Md_close 99 = .ok (.iconst 1, 1) := by decide +kernel
theorem d_Md_close_100 : decode b_Md_close 100 = .ok (.iadd, 1) := by decide +kernel
theorem d_Md_close_101 : decode b_Md_close 101 = .ok (.istore 8, 2) := by decide +kernel
theorem d_Md_close_103 : decode b_Md_close 103 = .ok (.iload_n 2, 1) := by decide +kernel
theorem d_Md_close_104 : decode b_Md_close 104 = .ok (.iconst 2, 1) := by decide +kernel
theorem d_Md_close_105 : decode b_Md_close 105 = .ok (.iload_n 3, 1) := by decide +kernel
theorem d_Md_close_106 : decode b_Md_close 106 = .ok (.imul, 1) := by decide +kernel
theorem d_Md_close_107 : decode b_Md_close 107 = .ok (.iadd, 1) := by decide +kernel
theorem d_Md_close_108 : decode b_Md_close 108 = .ok (.iconst 2, 1) := by decide +kernel
theorem d_Md_close_109 : decode b_Md_close 109 = .ok (.iadd, 1) := by decide +kernel
theorem d_Md_close_110 : decode b_Md_close 110 = .ok (.istore 9, 2) := by decide +kernel
theorem d_Md_close_112 : decode b_Md_close 112 = .ok (.iload 4, 2) := by decide +kernel
theorem d_Md_close_114 : decode b_Md_close 114 = .ok (.ifCond .le 19, 3) := by decide +kernel
theorem d_Md_close_133 : decode b_Md_close 133 = .ok (.aload_n 0, 1) := by decide +kernel
theorem d_Md_close_134 : decode b_Md_close 134 = .ok (.iconst (-1), 1) := by decide +kernel
theorem d_Md_close_135 : decode b_Md_close 135 = .ok (.iload 7, 2) := by decide +kernel
theorem d_Md_close_137 : decode b_Md_close 137 = .ok (.iload 8, 2) := by decide +kernel
theorem d_Md_close_139 : decode b_Md_close 139 = .ok (.iload 6, 2) := by decide +kernel
theorem d_Md_close_141 : decode b_Md_close 141 = .ok (.iload 9, 2) := by decide +kernel
theorem d_Md_close_143 : decode b_Md_close 143 = .ok (.invokevirtual 388, 3) := by decide +kernel
theorem d_Md_close_117 : decode b_Md_close 117 = .ok (.aload_n 0, 1) := by decide +kernel
theorem d_Md_close_118 : decode b_Md_close 118 = .ok (.iconst 1, 1) := by decide +kernel
theorem d_Md_close_119 : decode b_Md_close 119 = .ok (.iload 6, 2) := by decide +kernel
theorem d_Md_close_121 : decode b_Md_close 121 = .ok (.iload 9, 2) := by decide +kernel
theorem d_Md_close_123 : decode b_Md_close 123 = .ok (.iload 7, 2) := by decide +kernel
theorem d_Md_close_125 : decode b_Md_close 125 = .ok (.iload 8, 2) := by decide +kernel
theorem d_Md_close_127 : decode b_Md_close 127 = .ok (.invokevirtual 388, 3) := by decide +kernel
theorem d_Md_close_130 : decode b_Md_close 130 = .ok (.goto 16, 3) := by decide +kernel
theorem d_Md_close_43 : decode b_Md_close 43 = .ok (.iload_n 3, 1) := by decide +kernel
theorem d_Md_close_44 : decode b_Md_close 44 = .ok (.aload_n 1, 1) := by decide +kernel
theorem d_Md_close_45 : decode b_Md_close 45 = .ok (.getfield 398, 3) := by decide +kernel
theorem d_Md_close_48 : decode b_Md_close 48 = .ok (.if_icmp .ge 124, 3) := by decide +kernel
theorem d_Md_close_172 : decode b_Md_close 172 = .ok (.iconst 1, 1) := by decide +kernel
theorem d_Md_close_173 : decode b_Md_close 173 = .ok (.istore_n 3, 1) := by decide +kernel
theorem d_Md_close_51 : decode b_Md_close 51 = .ok (.aload_n 1, 1) := by decide +kernel
theorem d_Md_close_52 : decode b_Md_close 52 = .ok (.getfield 400, 3) := by decide +kernel
theorem d_Md_close_55 : decode b_Md_close 55 = .ok (.iload_n 3, 1) := by decide +kernel
theorem d_Md_close_56 : decode b_Md_close 56 = .ok (.iaload, 1) := by decide +kernel
theorem d_Md_close_57 : decode b_Md_close 57 = .ok (.istore 4, 2) := by decide +kernel
theorem d_Md_close_59 : decode b_Md_close 59 = .ok (.iload 4, 2) := by decide +kernel
theorem d_Md_close_61 : decode b_Md_close 61 = .ok (.ifCond .ge 9, 3) := by decide +kernel
theorem d_Md_close_70 : decode b_Md_close 70 = .ok (.iload 4, 2) := by decide +kernel
theorem d_Md_close_64 : decode b_Md_close 64 = .ok (.iload 4, 2) := by decide +kernel
theorem d_Md_close_66 : decode b_Md_close 66 = .ok (.ineg, 1) := by decide +kernel
theorem d_Md_close_67 : decode b_Md_close 67 = .ok (.goto 5, 3) := by decide +kernel
theorem d_Md_close_23 : decode b_Md_close 23 = .ok (.iload_n 3, 1) := by decide +kernel
theorem d_Md_close_24 : decode b_Md_close 24 = .ok (.iload_n 2, 1) := by decide +kernel
theorem d_Md_close_25 : decode b_Md_close 25 = .ok (.if_icmp .gt 16, 3) := by decide +kernel
theorem d_Md_close_41 : decode b_Md_close 41 = .ok (.iconst 0, 1) := by decide +kernel
theorem d_Md_close_42 : decode b_Md_close 42 = .ok (.istore_n 3, 1) := by decide +kernel
theorem d_Md_close_28 : decode b_Md_close 28 = .ok (.aload_n 0, 1) := by decide +kernel
theorem d_Md_close_29 : decode b_Md_close 29 = .ok (.getfield 93, 3) := by decide +kernel
theorem d_Md_close_32 : decode b_Md_close 32 = .ok (.iload_n 3, 1) := by decide +kernel
theorem d_Md_close_33 : decode b_Md_close 33 = .ok (.iload_n 3, 1) := by decide +kernel
theorem d_Md_close_34 : decode b_Md_close 34 = .ok (.iastore, 1) := by decide +kernel
theorem d_Md_close_35 : decode b_Md_close 35 = .ok (.iinc 3 1, 3) := by decide +kernel
theorem d_Md_close_38 : decode b_Md_close 38 = .ok (.goto (-15), 3) := by decide +kernel
theorem d_Md_close_0 : decode b_Md_close 0 = .ok (.aload_n 1, 1) := by decide +kernel
theorem d_Md_close_1 : decode b_Md_close 1 = .ok (.getfield 395, 3) := by decide +kernel
theorem d_Md_close_4 : decode b_Md_close 4 = .ok (.istore_n 2, 1) := by decide +kernel
theorem d_Md_close_5 : decode b_Md_close 5 = .ok (.aload_n 0, 1) := by decide +kernel
theorem d_Md_close_6 : decode b_Md_close 6 = .ok (.getfield 37, 3) := by decide +kernel
theorem d_Md_close_9 : decode b_Md_close 9 = .ok (.iconst 0, 1) := by decide +kernel
theorem d_Md_close_10 : decode b_Md_close 10 = .ok (.putfield 312, 3) := by decide +kernel
theorem d_Md_close_13 : decode b_Md_close 13 = .ok (.aload_n 0, 1) := by decide +kernel
theorem d_Md_close_14 : decode b_Md_close 14 = .ok (.getfield 37, 3) := by decide +kernel
theorem d_Md_close_17 : decode b_Md_close 17 = .ok (.iconst 0, 1) := by decide +kernel
theorem d_Md_close_18 : decode b_Md_close 18 = .ok (.putfield 354, 3) := by decide +kernel
theorem d_Md_close_21 : decode b_Md_close 21 = .ok (.iconst 1, 1) := by decide +kernel
theorem d_Md_close_22 : decode b_Md_close 22 = .ok (.istore_n 3, 1) := by decide +kernel
theorem d_Md_dartsOf_13 : decode b_Md_dartsOf 13 = .ok (.iload_n 3, 1) := by decide +kernel
theorem d_Md_dartsOf_14 : decode b_Md_dartsOf 14 = .ok (.aload_n 0, 1) := by decide +kernel
theorem d_Md_dartsOf_15 : decode b_Md_dartsOf 15 = .ok (.getfield 87, 3) := by decide +kernel
theorem d_Md_dartsOf_18 : decode b_Md_dartsOf 18 = .ok (.iload_n 1, 1) := by decide +kernel
theorem d_Md_dartsOf_19 : decode b_Md_dartsOf 19 = .ok (.iaload, 1) := by decide +kernel
theorem d_Md_dartsOf_20 : decode b_Md_dartsOf 20 = .ok (.if_icmp .eq 15, 3) := by decide +kernel
theorem d_Md_dartsOf_35 : decode b_Md_dartsOf 35 = .ok (.iload_n 2, 1) := by decide +kernel
theorem d_Md_dartsOf_36 : decode b_Md_dartsOf 36 = .ok (.ireturn, 1) := by decide +kernel
theorem d_Md_dartsOf_23 : decode b_Md_dartsOf 23 = .ok (.iinc 2 1, 3) := by decide +kernel
theorem d_Md_dartsOf_26 : decode b_Md_dartsOf 26 = .ok (.aload_n 0, 1) := by decide +kernel
theorem d_Md_dartsOf_27 : decode b_Md_dartsOf 27 = .ok (.iload_n 3, 1) := by decide +kernel
theorem d_Md_dartsOf_28 : decode b_Md_dartsOf 28 = .ok (.invokevirtual 333, 3) := by decide +kernel
theorem d_Md_dartsOf_31 : decode b_Md_dartsOf 31 = .ok (.istore_n 3, 1) := by decide +kernel
theorem d_Md_dartsOf_32 : decode b_Md_dartsOf 32 = .ok (.goto (-19), 3) := by decide +kernel
theorem d_Md_dartsOf_0 : decode b_Md_dartsOf 0 = .ok (.iconst 1, 1) := by decide +kernel
theorem d_Md_dartsOf_1 : decode b_Md_dartsOf 1 = .ok (.istore_n 2, 1) := by decide +kernel
theorem d_Md_dartsOf_2 : decode b_Md_dartsOf 2 = .ok (.aload_n 0, 1) := by decide +kernel
theorem d_Md_dartsOf_3 : decode b_Md_dartsOf 3 = .ok (.aload_n 0, 1) := by decide +kernel
theorem d_Md_dartsOf_4 : decode b_Md_dartsOf 4 = .ok (.getfield 87, 3) := by decide +kernel
theorem d_Md_dartsOf_7 : decode b_Md_dartsOf 7 = .ok (.iload_n 1, 1) := by decide +kernel
theorem d_Md_dartsOf_8 : decode b_Md_dartsOf 8 = .ok (.iaload, 1) := by decide +kernel
theorem d_Md_dartsOf_9 : decode b_Md_dartsOf 9 = .ok (.invokevirtual 333, 3) := by decide +kernel
theorem d_Md_dartsOf_12 : decode b_Md_dartsOf 12 = .ok (.istore_n 3, 1) := by decide +kernel
theorem d_Md_uppers_17 : decode b_Md_uppers 17 = .ok (.aload_n 0, 1) := by decide +kernel
theorem d_Md_uppers_18 : decode b_Md_uppers 18 = .ok (.getfield 72, 3) := by decide +kernel
theorem d_Md_uppers_21 : decode b_Md_uppers 21 = .ok (.iload_n 1, 1) := by decide +kernel
theorem d_Md_uppers_22 : decode b_Md_uppers 22 = .ok (.iaload, 1) := by decide +kernel
theorem d_Md_uppers_23 : decode b_Md_uppers 23 = .ok (.invokestatic 370, 3) := by decide +kernel
theorem d_Md_uppers_26 : decode b_Md_uppers 26 = .ok (.ifCond .eq 7, 3) := by decide +kernel
theorem d_Md_uppers_33 : decode b_Md_uppers 33 = .ok (.iconst 0, 1) := by decide +kernel
theorem d_Md_uppers_34 : decode b_Md_uppers 34 = .ok (.iadd, 1) := by decide +kernel
theorem d_Md_uppers_35 : decode b_Md_uppers 35 = .ok (.ireturn, 1) := by decide +kernel
theorem d_Md_uppers_29 : decode b_Md_uppers 29 = .ok (.iconst 1, 1) := by decide +kernel
theorem d_Md_uppers_30 : decode b_Md_uppers 30 = .ok (.goto 4, 3) := by decide +kernel
theorem d_Md_uppers_0 : decode b_Md_uppers 0 = .ok (.aload_n 0, 1) := by decide +kernel
theorem d_Md_uppers_1 : decode b_Md_uppers 1 = .ok (.getfield 69, 3) := by decide +kernel
theorem d_Md_uppers_4 : decode b_Md_uppers 4 = .ok (.iload_n 1, 1) := by decide +kernel
theorem d_Md_uppers_5 : decode b_Md_uppers 5 = .ok (.iaload, 1) := by decide +kernel
theorem d_Md_uppers_6 : decode b_Md_uppers 6 = .ok (.invokestatic 370, 3) := by decide +kernel
theorem d_Md_uppers_9 : decode b_Md_uppers 9 = .ok (.ifCond .eq 7, 3) := by decide +kernel
theorem d_Md_uppers_16 : decode b_Md_uppers 16 = .ok (.iconst 0, 1) := by decide +kernel
theorem d_Md_uppers_12 : decode b_Md_uppers 12 = .ok (.iconst 1, 1) := by decide +kernel
theorem d_Md_uppers_13 : decode b_Md_uppers 13 = .ok (.goto 4, 3) := by decide +kernel
theorem d_Md_lift_0 : decode b_Md_lift 0 = .ok (.aload_n 0, 1) := by decide +kernel
theorem d_Md_lift_1 : decode b_Md_lift 1 = .ok (.aload_n 0, 1) := by decide +kernel
theorem d_Md_lift_2 : decode b_Md_lift 2 = .ok (.getfield 37, 3) := by decide +kernel
theorem d_Md_lift_5 : decode b_Md_lift 5 = .ok (.getfield 318, 3) := by decide +kernel
theorem d_Md_lift_8 : decode b_Md_lift 8 = .ok (.iconst 4, 1) := by decide +kernel
theorem d_Md_lift_9 : decode b_Md_lift 9 = .ok (.iload_n 1, 1) := by decide +kernel
theorem d_Md_lift_10 : decode b_Md_lift 10 = .ok (.imul, 1) := by decide +kernel
theorem d_Md_lift_11 : decode b_Md_lift 11 = .ok (.iaload, 1) := by decide +kernel
theorem d_Md_lift_12 : decode b_Md_lift 12 = .ok (.aload_n 0, 1) := by decide +kernel
theorem d_Md_lift_13 : decode b_Md_lift 13 = .ok (.getfield 37, 3) := by decide +kernel
theorem d_Md_lift_16 : decode b_Md_lift 16 = .ok (.getfield 318, 3) := by decide +kernel
theorem d_Md_lift_19 : decode b_Md_lift 19 = .ok (.iconst 4, 1) := by decide +kernel
theorem d_Md_lift_20 : decode b_Md_lift 20 = .ok (.iload_n 1, 1) := by decide +kernel
theorem d_Md_lift_21 : decode b_Md_lift 21 = .ok (.imul, 1) := by decide +kernel
theorem d_Md_lift_22 : decode b_Md_lift 22 = .ok (.iconst 2, 1) := by decide +kernel
theorem d_Md_lift_23 : decode b_Md_lift 23 = .ok (.iadd, 1) := by decide +kernel
theorem d_Md_lift_24 : decode b_Md_lift 24 = .ok (.iaload, 1) := by decide +kernel
theorem d_Md_lift_25 : decode b_Md_lift 25 = .ok (.invokevirtual 357, 3) := by decide +kernel
theorem d_Md_lift_28 : decode b_Md_lift 28 = .ok (.aload_n 0, 1) := by decide +kernel
theorem d_Md_lift_29 : decode b_Md_lift 29 = .ok (.iload_n 1, 1) := by decide +kernel
theorem d_Md_lift_30 : decode b_Md_lift 30 = .ok (.invokevirtual 360, 3) := by decide +kernel
theorem d_Md_lift_33 : decode b_Md_lift 33 = .ok (.istore_n 2, 1) := by decide +kernel
theorem d_Md_lift_34 : decode b_Md_lift 34 = .ok (.aload_n 0, 1) := by decide +kernel
theorem d_Md_lift_35 : decode b_Md_lift 35 = .ok (.aload_n 0, 1) := by decide +kernel
theorem d_Md_lift_36 : decode b_Md_lift 36 = .ok (.getfield 37, 3) := by decide +kernel
theorem d_Md_lift_39 : decode b_Md_lift 39 = .ok (.getfield 318, 3) := by decide +kernel
theorem d_Md_lift_42 : decode b_Md_lift 42 = .ok (.iload_n 2, 1) := by decide +kernel
theorem d_Md_lift_43 : decode b_Md_lift 43 = .ok (.iaload, 1) := by decide +kernel
theorem d_Md_lift_44 : decode b_Md_lift 44 = .ok (.aload_n 0, 1) := by decide +kernel
theorem d_Md_lift_45 : decode b_Md_lift 45 = .ok (.getfield 37, 3) := by decide +kernel
theorem d_Md_lift_48 : decode b_Md_lift 48 = .ok (.getfield 318, 3) := by decide +kernel
theorem d_Md_lift_51 : decode b_Md_lift 51 = .ok (.iload_n 2, 1) := by decide +kernel
theorem d_Md_lift_52 : decode b_Md_lift 52 = .ok (.iconst 2, 1) := by decide +kernel
theorem d_Md_lift_53 : decode b_Md_lift 53 = .ok (.ixor, 1) := by decide +kernel
theorem d_Md_lift_54 : decode b_Md_lift 54 = .ok (.iaload, 1) := by decide +kernel
theorem d_Md_lift_55 : decode b_Md_lift 55 = .ok (.invokevirtual 357, 3) := by decide +kernel
theorem d_Md_lift_58 : decode b_Md_lift 58 = .ok (.aload_n 0, 1) := by decide +kernel
theorem d_Md_lift_59 : decode b_Md_lift 59 = .ok (.iload_n 1, 1) := by decide +kernel
theorem d_Md_lift_60 : decode b_Md_lift 60 = .ok (.invokevirtual 363, 3) := by decide +kernel
theorem d_Md_lift_63 : decode b_Md_lift 63 = .ok (.return_, 1) := by decide +kernel
theorem d_Md_slide_20 : decode b_Md_slide 20 = .ok (.iload_n 3, 1) := by decide +kernel
theorem d_Md_slide_21 : decode b_Md_slide 21 = .ok (.iconst 3, 1) := by decide +kernel
theorem d_Md_slide_22 : decode b_Md_slide 22 = .ok (.if_icmp .ge 120, 3) := by decide +kernel
theorem d_Md_slide_142 : decode b_Md_slide 142 = .ok (.return_, 1) := by decide +kernel
theorem d_Md_slide_25 : decode b_Md_slide 25 = .ok (.iload_n 2, 1) := by decide +kernel
theorem d_Md_slide_26 : decode b_Md_slide 26 = .ok (.iconst 1, 1) := by decide +kernel
theorem d_Md_slide_27 : decode b_Md_slide 27 = .ok (.ishr, 1) := by decide +kernel
theorem d_Md_slide_28 : decode b_Md_slide 28 = .ok (.istore 4, 2) := by decide +kernel
theorem d_Md_slide_30 : decode b_Md_slide 30 = .ok (.aload_n 0, 1) := by decide +kernel
theorem d_Md_slide_31 : decode b_Md_slide 31 = .ok (.getfield 69, 3) := by decide +kernel
theorem d_Md_slide_34 : decode b_Md_slide 34 = .ok (.iload 4, 2) := by decide +kernel
theorem d_Md_slide_36 : decode b_Md_slide 36 = .ok (.iaload, 1) := by decide +kernel
theorem d_Md_slide_37 : decode b_Md_slide 37 = .ok (.istore 5, 2) := by decide +kernel
theorem d_Md_slide_39 : decode b_Md_slide 39 = .ok (.aload_n 0, 1) := by decide +kernel
theorem d_Md_slide_40 : decode b_Md_slide 40 = .ok (.getfield 72, 3) := by decide +kernel
theorem d_Md_slide_43 : decode b_Md_slide 43 = .ok (.iload 4, 2) := by decide +kernel
theorem d_Md_slide_45 : decode b_Md_slide 45 = .ok (.iaload, 1) := by decide +kernel
theorem d_Md_slide_46 : decode b_Md_slide 46 = .ok (.istore 6, 2) := by decide +kernel
theorem d_Md_slide_48 : decode b_Md_slide 48 = .ok (.aload_n 0, 1) := by decide +kernel
theorem d_Md_slide_49 : decode b_Md_slide 49 = .ok (.getfield 37, 3) := by decide +kernel
theorem d_Md_slide_52 : decode b_Md_slide 52 = .ok (.getfield 318, 3) := by decide +kernel
theorem d_Md_slide_55 : decode b_Md_slide 55 = .ok (.iload 5, 2) := by decide +kernel
theorem d_Md_slide_57 : decode b_Md_slide 57 = .ok (.iconst 2, 1) := by decide +kernel
theorem d_Md_slide_58 : decode b_Md_slide 58 = .ok (.ixor, 1) := by decide +kernel
theorem d_Md_slide_59 : decode b_Md_slide 59 = .ok (.aload_n 0, 1) := by decide +kernel
theorem d_Md_slide_60 : decode b_Md_slide 60 = .ok (.getfield 66, 3) := by decide +kernel
theorem d_Md_slide_63 : decode b_Md_slide 63 = .ok (.iload 4, 2) := by decide +kernel
theorem d_Md_slide_65 : decode b_Md_slide 65 = .ok (.iaload, 1) := by decide +kernel
theorem d_Md_slide_66 : decode b_Md_slide 66 = .ok (.iastore, 1) := by decide +kernel
theorem d_Md_slide_67 : decode b_Md_slide 67 = .ok (.aload_n 0, 1) := by decide +kernel
theorem d_Md_slide_68 : decode b_Md_slide 68 = .ok (.getfield 37, 3) := by decide +kernel
theorem d_Md_slide_71 : decode b_Md_slide 71 = .ok (.getfield 318, 3) := by decide +kernel
theorem d_Md_slide_74 : decode b_Md_slide 74 = .ok (.iload 5, 2) := by decide +kernel
theorem d_Md_slide_76 : decode b_Md_slide 76 = .ok (.aload_n 0, 1) := by decide +kernel
theorem d_Md_slide_77 : decode b_Md_slide 77 = .ok (.getfield 41, 3) := by decide +kernel
theorem d_Md_slide_80 : decode b_Md_slide 80 = .ok (.getfield 318, 3) := by decide +kernel
theorem d_Md_slide_83 : decode b_Md_slide 83 = .ok (.iload 6, 2) := by decide +kernel
theorem d_Md_slide_85 : decode b_Md_slide 85 = .ok (.iconst 2, 1) := by decide +kernel
theorem d_Md_slide_86 : decode b_Md_slide 86 = .ok (.ixor, 1) := by decide +kernel
theorem d_Md_slide_87 : decode b_Md_slide 87 = .ok (.iaload, 1) := by decide +kernel
