theorem d_Md_isWord_76 : decode b_Md_isWord 76 = .ok (.ireturn, 1) := by decide +kernel
theorem d_Md_jones_0 : decode b_Md_jones 0 = .ok (.aload_n 0, 1) := by decide +kernel
theorem d_Md_jones_1 : decode b_Md_jones 1 = .ok (.invokevirtual 454, 3) := by decide +kernel
theorem d_Md_jones_4 : decode b_Md_jones 4 = .ok (.aload_n 0, 1) := by decide +kernel
theorem d_Md_jones_5 : decode b_Md_jones 5 = .ok (.invokevirtual 456, 3) := by decide +kernel
theorem d_Md_jones_8 : decode b_Md_jones 8 = .ok (.istore_n 1, 1) := by decide +kernel
theorem d_Md_jones_9 : decode b_Md_jones 9 = .ok (.iconst 0, 1) := by decide +kernel
theorem d_Md_jones_10 : decode b_Md_jones 10 = .ok (.istore_n 2, 1) := by decide +kernel
theorem d_Md_jones_11 : decode b_Md_jones 11 = .ok (.iload_n 2, 1) := by decide +kernel
theorem d_Md_jones_12 : decode b_Md_jones 12 = .ok (.sipush 200, 3) := by decide +kernel
theorem d_Md_jones_15 : decode b_Md_jones 15 = .ok (.if_icmp .gt 58, 3) := by decide +kernel
theorem d_Md_jones_18 : decode b_Md_jones 18 = .ok (.iload_n 2, 1) := by decide +kernel
theorem d_Md_jones_19 : decode b_Md_jones 19 = .ok (.iconst 3, 1) := by decide +kernel
theorem d_Md_jones_20 : decode b_Md_jones 20 = .ok (.iload_n 1, 1) := by decide +kernel
theorem d_Md_jones_21 : decode b_Md_jones 21 = .ok (.imul, 1) := by decide +kernel
theorem d_Md_jones_22 : decode b_Md_jones 22 = .ok (.iadd, 1) := by decide +kernel
theorem d_Md_jones_23 : decode b_Md_jones 23 = .ok (.istore_n 3, 1) := by decide +kernel
theorem d_Md_jones_24 : decode b_Md_jones 24 = .ok (.iload_n 3, 1) := by decide +kernel
theorem d_Md_jones_25 : decode b_Md_jones 25 = .ok (.ifCond .lt 10, 3) := by decide +kernel
theorem d_Md_jones_28 : decode b_Md_jones 28 = .ok (.iload_n 3, 1) := by decide +kernel
theorem d_Md_jones_29 : decode b_Md_jones 29 = .ok (.sipush 200, 3) := by decide +kernel
theorem d_Md_jones_32 : decode b_Md_jones 32 = .ok (.if_icmp .le 7, 3) := by decide +kernel
theorem d_Md_jones_35 : decode b_Md_jones 35 = .ok (.lconst 0, 1) := by decide +kernel
theorem d_Md_jones_36 : decode b_Md_jones 36 = .ok (.goto 9, 3) := by decide +kernel
theorem d_Md_jones_39 : decode b_Md_jones 39 = .ok (.aload_n 0, 1) := by decide +kernel
theorem d_Md_jones_40 : decode b_Md_jones 40 = .ok (.getfield 96, 3) := by decide +kernel
theorem d_Md_jones_43 : decode b_Md_jones 43 = .ok (.iload_n 3, 1) := by decide +kernel
theorem d_Md_jones_44 : decode b_Md_jones 44 = .ok (.laload, 1) := by decide +kernel
theorem d_Md_jones_45 : decode b_Md_jones 45 = .ok (.lstore 4, 2) := by decide +kernel
theorem d_Md_jones_47 : decode b_Md_jones 47 = .ok (.aload_n 0, 1) := by decide +kernel
theorem d_Md_jones_48 : decode b_Md_jones 48 = .ok (.getfield 99, 3) := by decide +kernel
theorem d_Md_jones_51 : decode b_Md_jones 51 = .ok (.iload_n 2, 1) := by decide +kernel
theorem d_Md_jones_52 : decode b_Md_jones 52 = .ok (.iload_n 1, 1) := by decide +kernel
theorem d_Md_jones_53 : decode b_Md_jones 53 = .ok (.iconst 2, 1) := by decide +kernel
theorem d_Md_jones_54 : decode b_Md_jones 54 = .ok (.irem, 1) := by decide +kernel
theorem d_Md_jones_55 : decode b_Md_jones 55 = .ok (.ifCond .ne 8, 3) := by decide +kernel
theorem d_Md_jones_58 : decode b_Md_jones 58 = .ok (.lload 4, 2) := by decide +kernel
theorem d_Md_jones_60 : decode b_Md_jones 60 = .ok (.goto 6, 3) := by decide +kernel
theorem d_Md_jones_63 : decode b_Md_jones 63 = .ok (.lload 4, 2) := by decide +kernel
theorem d_Md_jones_65 : decode b_Md_jones 65 = .ok (.lneg, 1) := by decide +kernel
theorem d_Md_jones_66 : decode b_Md_jones 66 = .ok (.lastore, 1) := by decide +kernel
theorem d_Md_jones_67 : decode b_Md_jones 67 = .ok (.iinc 2 1, 3) := by decide +kernel
theorem d_Md_jones_70 : decode b_Md_jones 70 = .ok (.goto (-59), 3) := by decide +kernel
theorem d_Md_jones_73 : decode b_Md_jones 73 = .ok (.iconst 0, 1) := by decide +kernel
theorem d_Md_jones_74 : decode b_Md_jones 74 = .ok (.istore_n 2, 1) := by decide +kernel
theorem d_Md_jones_75 : decode b_Md_jones 75 = .ok (.iload_n 2, 1) := by decide +kernel
theorem d_Md_jones_76 : decode b_Md_jones 76 = .ok (.sipush 200, 3) := by decide +kernel
theorem d_Md_jones_79 : decode b_Md_jones 79 = .ok (.if_icmp .gt 21, 3) := by decide +kernel
theorem d_Md_jones_82 : decode b_Md_jones 82 = .ok (.aload_n 0, 1) := by decide +kernel
theorem d_Md_jones_83 : decode b_Md_jones 83 = .ok (.getfield 96, 3) := by decide +kernel
theorem d_Md_jones_86 : decode b_Md_jones 86 = .ok (.iload_n 2, 1) := by decide +kernel
theorem d_Md_jones_87 : decode b_Md_jones 87 = .ok (.aload_n 0, 1) := by decide +kernel
theorem d_Md_jones_88 : decode b_Md_jones 88 = .ok (.getfield 99, 3) := by decide +kernel
theorem d_Md_jones_91 : decode b_Md_jones 91 = .ok (.iload_n 2, 1) := by decide +kernel
theorem d_Md_jones_92 : decode b_Md_jones 92 = .ok (.laload, 1) := by decide +kernel
theorem d_Md_jones_93 : decode b_Md_jones 93 = .ok (.lastore, 1) := by decide +kernel
theorem d_Md_jones_94 : decode b_Md_jones 94 = .ok (.iinc 2 1, 3) := by decide +kernel
theorem d_Md_jones_97 : decode b_Md_jones 97 = .ok (.goto (-22), 3) := by decide +kernel
theorem d_Md_jones_100 : decode b_Md_jones 100 = .ok (.return_, 1) := by decide +kernel
theorem d_Md_kindHere_0 : decode b_Md_kindHere 0 = .ok (.iconst 1, 1) := by decide +kernel
theorem d_Md_kindHere_1 : decode b_Md_kindHere 1 = .ok (.istore_n 1, 1) := by decide +kernel
theorem d_Md_kindHere_2 : decode b_Md_kindHere 2 = .ok (.iload_n 1, 1) := by decide +kernel
theorem d_Md_kindHere_3 : decode b_Md_kindHere 3 = .ok (.bipush 18, 2) := by decide +kernel
theorem d_Md_kindHere_5 : decode b_Md_kindHere 5 = .ok (.if_icmp .gt 22, 3) := by decide +kernel
theorem d_Md_kindHere_8 : decode b_Md_kindHere 8 = .ok (.aload_n 0, 1) := by decide +kernel
theorem d_Md_kindHere_9 : decode b_Md_kindHere 9 = .ok (.iload_n 1, 1) := by decide +kernel
theorem d_Md_kindHere_10 : decode b_Md_kindHere 10 = .ok (.invokestatic 245, 3) := by decide +kernel
theorem d_Md_kindHere_13 : decode b_Md_kindHere 13 = .ok (.invokevirtual 204, 3) := by decide +kernel
theorem d_Md_kindHere_16 : decode b_Md_kindHere 16 = .ok (.ifCond .eq 5, 3) := by decide +kernel
theorem d_Md_kindHere_19 : decode b_Md_kindHere 19 = .ok (.iload_n 1, 1) := by decide +kernel
theorem d_Md_kindHere_20 : decode b_Md_kindHere 20 = .ok (.ireturn, 1) := by decide +kernel
theorem d_Md_kindHere_21 : decode b_Md_kindHere 21 = .ok (.iinc 1 1, 3) := by decide +kernel
theorem d_Md_kindHere_24 : decode b_Md_kindHere 24 = .ok (.goto (-22), 3) := by decide +kernel
theorem d_Md_kindHere_27 : decode b_Md_kindHere 27 = .ok (.iconst 0, 1) := by decide +kernel
theorem d_Md_kindHere_28 : decode b_Md_kindHere 28 = .ok (.ireturn, 1) := by decide +kernel
theorem d_Md_length_0 : decode b_Md_length 0 = .ok (.iload_n 1, 1) := by decide +kernel
theorem d_Md_length_1 : decode b_Md_length 1 = .ok (.ifCond .eq 10, 3) := by decide +kernel
theorem d_Md_length_4 : decode b_Md_length 4 = .ok (.aload_n 0, 1) := by decide +kernel
theorem d_Md_length_5 : decode b_Md_length 5 = .ok (.getfield 54, 3) := by decide +kernel
theorem d_Md_length_8 : decode b_Md_length 8 = .ok (.goto 7, 3) := by decide +kernel
theorem d_Md_length_11 : decode b_Md_length 11 = .ok (.aload_n 0, 1) := by decide +kernel
theorem d_Md_length_12 : decode b_Md_length 12 = .ok (.getfield 50, 3) := by decide +kernel
theorem d_Md_length_15 : decode b_Md_length 15 = .ok (.astore_n 2, 1) := by decide +kernel
theorem d_Md_length_16 : decode b_Md_length 16 = .ok (.aload_n 2, 1) := by decide +kernel
theorem d_Md_length_17 : decode b_Md_length 17 = .ok (.invokestatic 437, 3) := by decide +kernel
theorem d_Md_length_20 : decode b_Md_length 20 = .ok (.aload_n 2, 1) := by decide +kernel
theorem d_Md_length_21 : decode b_Md_length 21 = .ok (.getfield 409, 3) := by decide +kernel
theorem d_Md_length_24 : decode b_Md_length 24 = .ok (.ireturn, 1) := by decide +kernel
theorem d_Md_letter_0 : decode b_Md_letter 0 = .ok (.aload_n 0, 1) := by decide +kernel
theorem d_Md_letter_1 : decode b_Md_letter 1 = .ok (.getfield 395, 3) := by decide +kernel
theorem d_Md_letter_4 : decode b_Md_letter 4 = .ok (.istore_n 2, 1) := by decide +kernel
theorem d_Md_letter_5 : decode b_Md_letter 5 = .ok (.iload_n 1, 1) := by decide +kernel
theorem d_Md_letter_6 : decode b_Md_letter 6 = .ok (.ifCond .ge 8, 3) := by decide +kernel
theorem d_Md_letter_9 : decode b_Md_letter 9 = .ok (.iload_n 1, 1) := by decide +kernel
theorem d_Md_letter_10 : decode b_Md_letter 10 = .ok (.ineg, 1) := by decide +kernel
theorem d_Md_letter_11 : decode b_Md_letter 11 = .ok (.goto 4, 3) := by decide +kernel
theorem d_Md_letter_14 : decode b_Md_letter 14 = .ok (.iload_n 1, 1) := by decide +kernel
theorem d_Md_letter_15 : decode b_Md_letter 15 = .ok (.istore_n 3, 1) := by decide +kernel
theorem d_Md_letter_16 : decode b_Md_letter 16 = .ok (.iload_n 1, 1) := by decide +kernel
theorem d_Md_letter_17 : decode b_Md_letter 17 = .ok (.ifCond .ge 37, 3) := by decide +kernel
theorem d_Md_letter_20 : decode b_Md_letter 20 = .ok (.aload_n 0, 1) := by decide +kernel
theorem d_Md_letter_21 : decode b_Md_letter 21 = .ok (.dup, 1) := by decide +kernel
theorem d_Md_letter_22 : decode b_Md_letter 22 = .ok (.getfield 406, 3) := by decide +kernel
theorem d_Md_letter_25 : decode b_Md_letter 25 = .ok (.iconst 1, 1) := by decide +kernel
theorem d_Md_letter_26 : decode b_Md_letter 26 = .ok (.isub, 1) := by decide +kernel
theorem d_Md_letter_27 : decode b_Md_letter 27 = .ok (.putfield 406, 3) := by decide +kernel
theorem d_Md_letter_30 : decode b_Md_letter 30 = .ok (.iconst 0, 1) := by decide +kernel
theorem d_Md_letter_31 : decode b_Md_letter 31 = .ok (.istore 4, 2) := by decide +kernel
theorem d_Md_letter_33 : decode b_Md_letter 33 = .ok (.iload 4, 2) := by decide +kernel
theorem d_Md_letter_35 : decode b_Md_letter 35 = .ok (.aload_n 0, 1) := by decide +kernel
theorem d_Md_letter_36 : decode b_Md_letter 36 = .ok (.getfield 409, 3) := by decide +kernel
theorem d_Md_letter_39 : decode b_Md_letter 39 = .ok (.if_icmp .ge 15, 3) := by decide +kernel
theorem d_Md_letter_42 : decode b_Md_letter 42 = .ok (.aload_n 0, 1) := by decide +kernel
theorem d_Md_letter_43 : decode b_Md_letter 43 = .ok (.iload 4, 2) := by decide +kernel
theorem d_Md_letter_45 : decode b_Md_letter 45 = .ok (.invokestatic 412, 3) := by decide +kernel
theorem d_Md_letter_48 : decode b_Md_letter 48 = .ok (.iinc 4 1, 3) := by decide +kernel
theorem d_Md_letter_51 : decode b_Md_letter 51 = .ok (.goto (-18), 3) := by decide +kernel
theorem d_Md_letter_54 : decode b_Md_letter 54 = .ok (.iconst 1, 1) := by decide +kernel
theorem d_Md_letter_55 : decode b_Md_letter 55 = .ok (.istore 4, 2) := by decide +kernel
theorem d_Md_letter_57 : decode b_Md_letter 57 = .ok (.iload 4, 2) := by decide +kernel
theorem d_Md_letter_59 : decode b_Md_letter 59 = .ok (.iload_n 2, 1) := by decide +kernel
theorem d_Md_letter_60 : decode b_Md_letter 60 = .ok (.if_icmp .gt 67, 3) := by decide +kernel
theorem d_Md_letter_63 : decode b_Md_letter 63 = .ok (.iload_n 1, 1) := by decide +kernel
theorem d_Md_letter_64 : decode b_Md_letter 64 = .ok (.ifCond .ge 12, 3) := by decide +kernel
theorem d_Md_letter_67 : decode b_Md_letter 67 = .ok (.iload_n 2, 1) := by decide +kernel
theorem d_Md_letter_68 : decode b_Md_letter 68 = .ok (.iconst 1, 1) := by decide +kernel
theorem d_Md_letter_69 : decode b_Md_letter 69 = .ok (.iadd, 1) := by decide +kernel
theorem d_Md_letter_70 : decode b_Md_letter 70 = .ok (.iload 4, 2) := by decide +kernel
theorem d_Md_letter_72 : decode b_Md_letter 72 = .ok (.isub, 1) := by decide +kernel
theorem d_Md_letter_73 : decode b_Md_letter 73 = .ok (.goto 5, 3) := by decide +kernel
theorem d_Md_letter_76 : decode b_Md_letter 76 = .ok (.iload 4, 2) := by decide +kernel
theorem d_Md_letter_78 : decode b_Md_letter 78 = .ok (.istore 5, 2) := by decide +kernel
theorem d_Md_letter_80 : decode b_Md_letter 80 = .ok (.aload_n 0, 1) := by decide +kernel
theorem d_Md_letter_81 : decode b_Md_letter 81 = .ok (.getfield 403, 3) := by decide +kernel
theorem d_Md_letter_84 : decode b_Md_letter 84 = .ok (.bipush 9, 2) := by decide +kernel
theorem d_Md_letter_86 : decode b_Md_letter 86 = .ok (.aload_n 0, 1) := by decide +kernel
theorem d_Md_letter_87 : decode b_Md_letter 87 = .ok (.getfield 409, 3) := by decide +kernel
theorem d_Md_letter_90 : decode b_Md_letter 90 = .ok (.imul, 1) := by decide +kernel
theorem d_Md_letter_91 : decode b_Md_letter 91 = .ok (.iload 4, 2) := by decide +kernel
theorem d_Md_letter_93 : decode b_Md_letter 93 = .ok (.iadd, 1) := by decide +kernel
theorem d_Md_letter_94 : decode b_Md_letter 94 = .ok (.iload 5, 2) := by decide +kernel
theorem d_Md_letter_96 : decode b_Md_letter 96 = .ok (.iload_n 3, 1) := by decide +kernel
theorem d_Md_letter_97 : decode b_Md_letter 97 = .ok (.if_icmp .ne 9, 3) := by decide +kernel
theorem d_Md_letter_100 : decode b_Md_letter 100 = .ok (.iload_n 3, 1) := by decide +kernel
theorem d_Md_letter_101 : decode b_Md_letter 101 = .ok (.iconst 1, 1) := by decide +kernel
theorem d_Md_letter_102 : decode b_Md_letter 102 = .ok (.iadd, 1) := by decide +kernel
theorem d_Md_letter_103 : decode b_Md_letter 103 = .ok (.goto 17, 3) := by decide +kernel
theorem d_Md_letter_106 : decode b_Md_letter 106 = .ok (.iload 5, 2) := by decide +kernel
theorem d_Md_letter_108 : decode b_Md_letter 108 = .ok (.iload_n 3, 1) := by decide +kernel
theorem d_Md_letter_109 : decode b_Md_letter 109 = .ok (.iconst 1, 1) := by decide +kernel
theorem d_Md_letter_110 : decode b_Md_letter 110 = .ok (.iadd, 1) := by decide +kernel
theorem d_Md_letter_111 : decode b_Md_letter 111 = .ok (.if_icmp .ne 7, 3) := by decide +kernel
theorem d_Md_letter_114 : decode b_Md_letter 114 = .ok (.iload_n 3, 1) := by decide +kernel
theorem d_Md_letter_115 : decode b_Md_letter 115 = .ok (.goto 5, 3) := by decide +kernel
theorem d_Md_letter_118 : decode b_Md_letter 118 = .ok (.iload 5, 2) := by decide +kernel
theorem d_Md_letter_120 : decode b_Md_letter 120 = .ok (.iastore, 1) := by decide +kernel
theorem d_Md_letter_121 : decode b_Md_letter 121 = .ok (.iinc 4 1, 3) := by decide +kernel
theorem d_Md_letter_124 : decode b_Md_letter 124 = .ok (.goto (-67), 3) := by decide +kernel
theorem d_Md_letter_127 : decode b_Md_letter 127 = .ok (.aload_n 0, 1) := by decide +kernel
theorem d_Md_letter_128 : decode b_Md_letter 128 = .ok (.dup, 1) := by decide +kernel
theorem d_Md_letter_129 : decode b_Md_letter 129 = .ok (.getfield 409, 3) := by decide +kernel
theorem d_Md_letter_132 : decode b_Md_letter 132 = .ok (.iconst 1, 1) := by decide +kernel
theorem d_Md_letter_133 : decode b_Md_letter 133 = .ok (.iadd, 1) := by decide +kernel
theorem d_Md_letter_134 : decode b_Md_letter 134 = .ok (.putfield 409, 3) := by decide +kernel
theorem d_Md_letter_137 : decode b_Md_letter 137 = .ok (.return_, 1) := by decide +kernel
theorem d_Md_lift_0 : decode b_Md_lift 0 = .ok (.aload_n 0, 1) := by decide +kernel
theorem d_Md_lift_1 : decode b_Md_lift 1 = .ok (.aload_n 0, 1) := by decide +kernel
theorem d_Md_lift_2 : decode b_Md_lift 2 = .ok (.getfield 37, 3) := by decide +kernel
theorem d_Md_lift_5 : decode b_Md_lift 5 = .ok (.getfield 318, 3) := by decide +kernel
theorem d_Md_lift_8 : decode b_Md_lift 8 = .ok (.iconst 4, 1) := by decide +kernel
theorem d_Md_lift_9 : decode b_Md_lift 9 = .ok (.iload_n 1, 1) := by decide +kernel
theorem d_Md_lift_10 : decode b_Md_lift 10 = .ok (.imul, 1) := by decide +kernel
theorem d_Md_lift_11 : decode b_Md_lift 11 = .ok (.iaload, 1) := by decide +kernel
theorem d_Md_lift_12 : decode b_Md_lift 12 = .ok (.aload_n 0, 1) := by decide +kernel
theorem d_Md_lift_13 : decode b_Md_lift 13 = .ok (.getfield 37, 3) := by decide +kernel
theorem d_Md_lift_16 : decode b_Md_lift 16 = .ok (.getfield 318, 3) := by decide +kernel
theorem d_Md_lift_19 : decode b_Md_lift 19 = .ok (.iconst 4, 1) := by decide +kernel
theorem d_Md_lift_20 : decode b_Md_lift 20 = .ok (.iload_n 1, 1) := by decide +kernel
theorem d_Md_lift_21 : decode b_Md_lift 21 = .ok (.imul, 1) := by decide +kernel
theorem d_Md_lift_22 : decode b_Md_lift 22 = .ok (.iconst 2, 1) := by decide +kernel
theorem d_Md_lift_23 : decode b_Md_lift 23 = .ok (.iadd, 1) := by decide +kernel
theorem d_Md_lift_24 : decode b_Md_lift 24 = .ok (.iaload, 1) := by decide +kernel
theorem d_Md_lift_25 : decode b_Md_lift 25 = .ok (.invokevirtual 357, 3) := by decide +kernel
theorem d_Md_lift_28 : decode b_Md_lift 28 = .ok (.aload_n 0, 1) := by decide +kernel
theorem d_Md_lift_29 : decode b_Md_lift 29 = .ok (.iload_n 1, 1) := by decide +kernel
theorem d_Md_lift_30 : decode b_Md_lift 30 = .ok (.invokevirtual 360, 3) := by decide +kernel
theorem d_Md_lift_33 : decode b_Md_lift 33 = .ok (.istore_n 2, 1) := by decide +kernel
theorem d_Md_lift_34 : decode b_Md_lift 34 = .ok (.aload_n 0, 1) := by decide +kernel
theorem d_Md_lift_35 : decode b_Md_lift 35 = .ok (.aload_n 0, 1) := by decide +kernel
theorem d_Md_lift_36 : decode b_Md_lift 36 = .ok (.getfield 37, 3) := by decide +kernel
theorem d_Md_lift_39 : decode b_Md_lift 39 = .ok (.getfield 318, 3) := by decide +kernel
theorem d_Md_lift_42 : decode b_Md_lift 42 = .ok (.iload_n 2, 1) := by decide +kernel
theorem d_Md_lift_43 : decode b_Md_lift 43 = .ok (.iaload, 1) := by decide +kernel
theorem d_Md_lift_44 : decode b_Md_lift 44 = .ok (.aload_n 0, 1) := by decide +kernel
theorem d_Md_lift_45 : decode b_Md_lift 45 = .ok (.getfield 37, 3) := by decide +kernel
theorem d_Md_lift_48 : decode b_Md_lift 48 = .ok (.getfield 318, 3) := by decide +kernel
theorem d_Md_lift_51 : decode b_Md_lift 51 = .ok (.iload_n 2, 1) := by decide +kernel
theorem d_Md_lift_52 : decode b_Md_lift 52 = .ok (.iconst 2, 1) := by decide +kernel
theorem d_Md_lift_53 : decode b_Md_lift 53 = .ok (.ixor, 1) := by decide +kernel
theorem d_Md_lift_54 : decode b_Md_lift 54 = .ok (.iaload, 1) := by decide +kernel
