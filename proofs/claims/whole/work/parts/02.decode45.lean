theorem d_Md_form_71 : decode b_Md_form 71 = .ok (.iload_n 2, 1) := by decide +kernel
theorem d_Md_form_72 : decode b_Md_form 72 = .ok (.imul, 1) := by decide +kernel
theorem d_Md_form_73 : decode b_Md_form 73 = .ok (.bipush 9, 2) := by decide +kernel
theorem d_Md_form_75 : decode b_Md_form 75 = .ok (.isub, 1) := by decide +kernel
theorem d_Md_form_76 : decode b_Md_form 76 = .ok (.iload_n 3, 1) := by decide +kernel
theorem d_Md_form_77 : decode b_Md_form 77 = .ok (.iadd, 1) := by decide +kernel
theorem d_Md_form_78 : decode b_Md_form 78 = .ok (.iaload, 1) := by decide +kernel
theorem d_Md_form_79 : decode b_Md_form 79 = .ok (.ireturn, 1) := by decide +kernel
theorem d_Md_free_0 : decode b_Md_free 0 = .ok (.iload_n 1, 1) := by decide +kernel
theorem d_Md_free_1 : decode b_Md_free 1 = .ok (.iconst 1, 1) := by decide +kernel
theorem d_Md_free_2 : decode b_Md_free 2 = .ok (.iadd, 1) := by decide +kernel
theorem d_Md_free_3 : decode b_Md_free 3 = .ok (.istore_n 2, 1) := by decide +kernel
theorem d_Md_free_4 : decode b_Md_free 4 = .ok (.aload_n 0, 1) := by decide +kernel
theorem d_Md_free_5 : decode b_Md_free 5 = .ok (.iload_n 2, 1) := by decide +kernel
theorem d_Md_free_6 : decode b_Md_free 6 = .ok (.invokevirtual 348, 3) := by decide +kernel
theorem d_Md_free_9 : decode b_Md_free 9 = .ok (.ifCond .le 9, 3) := by decide +kernel
theorem d_Md_free_12 : decode b_Md_free 12 = .ok (.iinc 2 1, 3) := by decide +kernel
theorem d_Md_free_15 : decode b_Md_free 15 = .ok (.goto (-11), 3) := by decide +kernel
theorem d_Md_free_18 : decode b_Md_free 18 = .ok (.iload_n 2, 1) := by decide +kernel
theorem d_Md_free_19 : decode b_Md_free 19 = .ok (.ireturn, 1) := by decide +kernel
theorem d_Md_given_0 : decode b_Md_given 0 = .ok (.aload_n 0, 1) := by decide +kernel
theorem d_Md_given_1 : decode b_Md_given 1 = .ok (.getfield 30, 3) := by decide +kernel
theorem d_Md_given_4 : decode b_Md_given 4 = .ok (.aload_n 0, 1) := by decide +kernel
theorem d_Md_given_5 : decode b_Md_given 5 = .ok (.getfield 27, 3) := by decide +kernel
theorem d_Md_given_8 : decode b_Md_given 8 = .ok (.aload_n 0, 1) := by decide +kernel
theorem d_Md_given_9 : decode b_Md_given 9 = .ok (.getfield 290, 3) := by decide +kernel
theorem d_Md_given_12 : decode b_Md_given 12 = .ok (.iaload, 1) := by decide +kernel
theorem d_Md_given_13 : decode b_Md_given 13 = .ok (.iload_n 1, 1) := by decide +kernel
theorem d_Md_given_14 : decode b_Md_given 14 = .ok (.iadd, 1) := by decide +kernel
theorem d_Md_given_15 : decode b_Md_given 15 = .ok (.laload, 1) := by decide +kernel
theorem d_Md_given_16 : decode b_Md_given 16 = .ok (.l2i, 1) := by decide +kernel
theorem d_Md_given_17 : decode b_Md_given 17 = .ok (.ireturn, 1) := by decide +kernel
theorem d_Md_ins_0 : decode b_Md_ins 0 = .ok (.iconst 0, 1) := by decide +kernel
theorem d_Md_ins_1 : decode b_Md_ins 1 = .ok (.istore_n 2, 1) := by decide +kernel
theorem d_Md_ins_2 : decode b_Md_ins 2 = .ok (.iconst 0, 1) := by decide +kernel
theorem d_Md_ins_3 : decode b_Md_ins 3 = .ok (.istore_n 3, 1) := by decide +kernel
theorem d_Md_ins_4 : decode b_Md_ins 4 = .ok (.iload_n 3, 1) := by decide +kernel
theorem d_Md_ins_5 : decode b_Md_ins 5 = .ok (.iconst 4, 1) := by decide +kernel
theorem d_Md_ins_6 : decode b_Md_ins 6 = .ok (.aload_n 0, 1) := by decide +kernel
theorem d_Md_ins_7 : decode b_Md_ins 7 = .ok (.getfield 37, 3) := by decide +kernel
theorem d_Md_ins_10 : decode b_Md_ins 10 = .ok (.getfield 312, 3) := by decide +kernel
theorem d_Md_ins_13 : decode b_Md_ins 13 = .ok (.imul, 1) := by decide +kernel
theorem d_Md_ins_14 : decode b_Md_ins 14 = .ok (.if_icmp .ge 38, 3) := by decide +kernel
theorem d_Md_ins_17 : decode b_Md_ins 17 = .ok (.iload_n 2, 1) := by decide +kernel
theorem d_Md_ins_18 : decode b_Md_ins 18 = .ok (.aload_n 0, 1) := by decide +kernel
theorem d_Md_ins_19 : decode b_Md_ins 19 = .ok (.getfield 37, 3) := by decide +kernel
theorem d_Md_ins_22 : decode b_Md_ins 22 = .ok (.getfield 318, 3) := by decide +kernel
theorem d_Md_ins_25 : decode b_Md_ins 25 = .ok (.iload_n 3, 1) := by decide +kernel
theorem d_Md_ins_26 : decode b_Md_ins 26 = .ok (.iaload, 1) := by decide +kernel
theorem d_Md_ins_27 : decode b_Md_ins 27 = .ok (.iload_n 1, 1) := by decide +kernel
theorem d_Md_ins_28 : decode b_Md_ins 28 = .ok (.if_icmp .ne 15, 3) := by decide +kernel
theorem d_Md_ins_31 : decode b_Md_ins 31 = .ok (.aload_n 0, 1) := by decide +kernel
theorem d_Md_ins_32 : decode b_Md_ins 32 = .ok (.iload_n 3, 1) := by decide +kernel
theorem d_Md_ins_33 : decode b_Md_ins 33 = .ok (.invokevirtual 315, 3) := by decide +kernel
theorem d_Md_ins_36 : decode b_Md_ins 36 = .ok (.ifCond .eq 7, 3) := by decide +kernel
theorem d_Md_ins_39 : decode b_Md_ins 39 = .ok (.iconst 1, 1) := by decide +kernel
theorem d_Md_ins_40 : decode b_Md_ins 40 = .ok (.goto 4, 3) := by decide +kernel
theorem d_Md_ins_43 : decode b_Md_ins 43 = .ok (.iconst 0, 1) := by decide +kernel
theorem d_Md_ins_44 : decode b_Md_ins 44 = .ok (.iadd, 1) := by decide +kernel
theorem d_Md_ins_45 : decode b_Md_ins 45 = .ok (.istore_n 2, 1) := by decide +kernel
theorem d_Md_ins_46 : decode b_Md_ins 46 = .ok (.iinc 3 1, 3) := by decide +kernel
theorem d_Md_ins_49 : decode b_Md_ins 49 = .ok (.goto (-45), 3) := by decide +kernel
theorem d_Md_ins_52 : decode b_Md_ins 52 = .ok (.iload_n 2, 1) := by decide +kernel
theorem d_Md_ins_53 : decode b_Md_ins 53 = .ok (.ireturn, 1) := by decide +kernel
theorem d_Md_isAlternating_0 : decode b_Md_isAlternating 0 = .ok (.iconst 1, 1) := by decide +kernel
theorem d_Md_isAlternating_1 : decode b_Md_isAlternating 1 = .ok (.istore_n 1, 1) := by decide +kernel
theorem d_Md_isAlternating_2 : decode b_Md_isAlternating 2 = .ok (.iconst 0, 1) := by decide +kernel
theorem d_Md_isAlternating_3 : decode b_Md_isAlternating 3 = .ok (.istore_n 2, 1) := by decide +kernel
theorem d_Md_isAlternating_4 : decode b_Md_isAlternating 4 = .ok (.iload_n 2, 1) := by decide +kernel
theorem d_Md_isAlternating_5 : decode b_Md_isAlternating 5 = .ok (.aload_n 0, 1) := by decide +kernel
theorem d_Md_isAlternating_6 : decode b_Md_isAlternating 6 = .ok (.getfield 309, 3) := by decide +kernel
theorem d_Md_isAlternating_9 : decode b_Md_isAlternating 9 = .ok (.if_icmp .ge 40, 3) := by decide +kernel
theorem d_Md_isAlternating_12 : decode b_Md_isAlternating 12 = .ok (.iload_n 1, 1) := by decide +kernel
theorem d_Md_isAlternating_13 : decode b_Md_isAlternating 13 = .ok (.ifCond .eq 28, 3) := by decide +kernel
theorem d_Md_isAlternating_16 : decode b_Md_isAlternating 16 = .ok (.aload_n 0, 1) := by decide +kernel
theorem d_Md_isAlternating_17 : decode b_Md_isAlternating 17 = .ok (.getfield 69, 3) := by decide +kernel
theorem d_Md_isAlternating_20 : decode b_Md_isAlternating 20 = .ok (.iload_n 2, 1) := by decide +kernel
theorem d_Md_isAlternating_21 : decode b_Md_isAlternating 21 = .ok (.iaload, 1) := by decide +kernel
theorem d_Md_isAlternating_22 : decode b_Md_isAlternating 22 = .ok (.invokestatic 370, 3) := by decide +kernel
theorem d_Md_isAlternating_25 : decode b_Md_isAlternating 25 = .ok (.aload_n 0, 1) := by decide +kernel
theorem d_Md_isAlternating_26 : decode b_Md_isAlternating 26 = .ok (.getfield 72, 3) := by decide +kernel
theorem d_Md_isAlternating_29 : decode b_Md_isAlternating 29 = .ok (.iload_n 2, 1) := by decide +kernel
theorem d_Md_isAlternating_30 : decode b_Md_isAlternating 30 = .ok (.iaload, 1) := by decide +kernel
theorem d_Md_isAlternating_31 : decode b_Md_isAlternating 31 = .ok (.invokestatic 370, 3) := by decide +kernel
theorem d_Md_isAlternating_34 : decode b_Md_isAlternating 34 = .ok (.if_icmp .eq 7, 3) := by decide +kernel
theorem d_Md_isAlternating_37 : decode b_Md_isAlternating 37 = .ok (.iconst 1, 1) := by decide +kernel
theorem d_Md_isAlternating_38 : decode b_Md_isAlternating 38 = .ok (.goto 4, 3) := by decide +kernel
theorem d_Md_isAlternating_41 : decode b_Md_isAlternating 41 = .ok (.iconst 0, 1) := by decide +kernel
theorem d_Md_isAlternating_42 : decode b_Md_isAlternating 42 = .ok (.istore_n 1, 1) := by decide +kernel
theorem d_Md_isAlternating_43 : decode b_Md_isAlternating 43 = .ok (.iinc 2 1, 3) := by decide +kernel
theorem d_Md_isAlternating_46 : decode b_Md_isAlternating 46 = .ok (.goto (-42), 3) := by decide +kernel
theorem d_Md_isAlternating_49 : decode b_Md_isAlternating 49 = .ok (.iload_n 1, 1) := by decide +kernel
theorem d_Md_isAlternating_50 : decode b_Md_isAlternating 50 = .ok (.ireturn, 1) := by decide +kernel
theorem d_Md_isBadNumber_0 : decode b_Md_isBadNumber 0 = .ok (.aload_n 0, 1) := by decide +kernel
theorem d_Md_isBadNumber_1 : decode b_Md_isBadNumber 1 = .ok (.getfield 132, 3) := by decide +kernel
theorem d_Md_isBadNumber_4 : decode b_Md_isBadNumber 4 = .ok (.aload_n 0, 1) := by decide +kernel
theorem d_Md_isBadNumber_5 : decode b_Md_isBadNumber 5 = .ok (.getfield 142, 3) := by decide +kernel
theorem d_Md_isBadNumber_8 : decode b_Md_isBadNumber 8 = .ok (.isub, 1) := by decide +kernel
theorem d_Md_isBadNumber_9 : decode b_Md_isBadNumber 9 = .ok (.bipush 18, 2) := by decide +kernel
theorem d_Md_isBadNumber_11 : decode b_Md_isBadNumber 11 = .ok (.if_icmp .gt 45, 3) := by decide +kernel
theorem d_Md_isBadNumber_14 : decode b_Md_isBadNumber 14 = .ok (.aload_n 0, 1) := by decide +kernel
theorem d_Md_isBadNumber_15 : decode b_Md_isBadNumber 15 = .ok (.getfield 16, 3) := by decide +kernel
theorem d_Md_isBadNumber_18 : decode b_Md_isBadNumber 18 = .ok (.aload_n 0, 1) := by decide +kernel
theorem d_Md_isBadNumber_19 : decode b_Md_isBadNumber 19 = .ok (.getfield 142, 3) := by decide +kernel
theorem d_Md_isBadNumber_22 : decode b_Md_isBadNumber 22 = .ok (.baload, 1) := by decide +kernel
theorem d_Md_isBadNumber_23 : decode b_Md_isBadNumber 23 = .ok (.bipush 48, 2) := by decide +kernel
theorem d_Md_isBadNumber_25 : decode b_Md_isBadNumber 25 = .ok (.if_icmp .ne 16, 3) := by decide +kernel
theorem d_Md_isBadNumber_28 : decode b_Md_isBadNumber 28 = .ok (.aload_n 0, 1) := by decide +kernel
theorem d_Md_isBadNumber_29 : decode b_Md_isBadNumber 29 = .ok (.getfield 132, 3) := by decide +kernel
theorem d_Md_isBadNumber_32 : decode b_Md_isBadNumber 32 = .ok (.aload_n 0, 1) := by decide +kernel
theorem d_Md_isBadNumber_33 : decode b_Md_isBadNumber 33 = .ok (.getfield 142, 3) := by decide +kernel
theorem d_Md_isBadNumber_36 : decode b_Md_isBadNumber 36 = .ok (.isub, 1) := by decide +kernel
theorem d_Md_isBadNumber_37 : decode b_Md_isBadNumber 37 = .ok (.iconst 1, 1) := by decide +kernel
theorem d_Md_isBadNumber_38 : decode b_Md_isBadNumber 38 = .ok (.if_icmp .gt 18, 3) := by decide +kernel
theorem d_Md_isBadNumber_41 : decode b_Md_isBadNumber 41 = .ok (.iload_n 1, 1) := by decide +kernel
theorem d_Md_isBadNumber_42 : decode b_Md_isBadNumber 42 = .ok (.ifCond .ne 18, 3) := by decide +kernel
theorem d_Md_isBadNumber_45 : decode b_Md_isBadNumber 45 = .ok (.aload_n 0, 1) := by decide +kernel
theorem d_Md_isBadNumber_46 : decode b_Md_isBadNumber 46 = .ok (.invokevirtual 166, 3) := by decide +kernel
theorem d_Md_isBadNumber_49 : decode b_Md_isBadNumber 49 = .ok (.ldc2_w 170, 3) := by decide +kernel
theorem d_Md_isBadNumber_52 : decode b_Md_isBadNumber 52 = .ok (.lcmp, 1) := by decide +kernel
theorem d_Md_isBadNumber_53 : decode b_Md_isBadNumber 53 = .ok (.ifCond .le 7, 3) := by decide +kernel
theorem d_Md_isBadNumber_56 : decode b_Md_isBadNumber 56 = .ok (.iconst 1, 1) := by decide +kernel
theorem d_Md_isBadNumber_57 : decode b_Md_isBadNumber 57 = .ok (.goto 4, 3) := by decide +kernel
theorem d_Md_isBadNumber_60 : decode b_Md_isBadNumber 60 = .ok (.iconst 0, 1) := by decide +kernel
theorem d_Md_isBadNumber_61 : decode b_Md_isBadNumber 61 = .ok (.ireturn, 1) := by decide +kernel
theorem d_Md_isDigit_0 : decode b_Md_isDigit 0 = .ok (.iload_n 0, 1) := by decide +kernel
theorem d_Md_isDigit_1 : decode b_Md_isDigit 1 = .ok (.bipush 48, 2) := by decide +kernel
theorem d_Md_isDigit_3 : decode b_Md_isDigit 3 = .ok (.if_icmp .lt 13, 3) := by decide +kernel
theorem d_Md_isDigit_6 : decode b_Md_isDigit 6 = .ok (.iload_n 0, 1) := by decide +kernel
theorem d_Md_isDigit_7 : decode b_Md_isDigit 7 = .ok (.bipush 57, 2) := by decide +kernel
theorem d_Md_isDigit_9 : decode b_Md_isDigit 9 = .ok (.if_icmp .gt 7, 3) := by decide +kernel
theorem d_Md_isDigit_12 : decode b_Md_isDigit 12 = .ok (.iconst 1, 1) := by decide +kernel
theorem d_Md_isDigit_13 : decode b_Md_isDigit 13 = .ok (.goto 4, 3) := by decide +kernel
theorem d_Md_isDigit_16 : decode b_Md_isDigit 16 = .ok (.iconst 0, 1) := by decide +kernel
theorem d_Md_isDigit_17 : decode b_Md_isDigit 17 = .ok (.ireturn, 1) := by decide +kernel
theorem d_Md_isIn_0 : decode b_Md_isIn 0 = .ok (.iload_n 1, 1) := by decide +kernel
theorem d_Md_isIn_1 : decode b_Md_isIn 1 = .ok (.iconst 3, 1) := by decide +kernel
theorem d_Md_isIn_2 : decode b_Md_isIn 2 = .ok (.iand, 1) := by decide +kernel
theorem d_Md_isIn_3 : decode b_Md_isIn 3 = .ok (.istore_n 2, 1) := by decide +kernel
theorem d_Md_isIn_4 : decode b_Md_isIn 4 = .ok (.iload_n 2, 1) := by decide +kernel
theorem d_Md_isIn_5 : decode b_Md_isIn 5 = .ok (.ifCond .eq 43, 3) := by decide +kernel
theorem d_Md_isIn_8 : decode b_Md_isIn 8 = .ok (.iload_n 2, 1) := by decide +kernel
theorem d_Md_isIn_9 : decode b_Md_isIn 9 = .ok (.iconst 3, 1) := by decide +kernel
theorem d_Md_isIn_10 : decode b_Md_isIn 10 = .ok (.if_icmp .ne 18, 3) := by decide +kernel
theorem d_Md_isIn_13 : decode b_Md_isIn 13 = .ok (.aload_n 0, 1) := by decide +kernel
theorem d_Md_isIn_14 : decode b_Md_isIn 14 = .ok (.getfield 37, 3) := by decide +kernel
theorem d_Md_isIn_17 : decode b_Md_isIn 17 = .ok (.getfield 306, 3) := by decide +kernel
theorem d_Md_isIn_20 : decode b_Md_isIn 20 = .ok (.iload_n 1, 1) := by decide +kernel
theorem d_Md_isIn_21 : decode b_Md_isIn 21 = .ok (.iconst 2, 1) := by decide +kernel
theorem d_Md_isIn_22 : decode b_Md_isIn 22 = .ok (.ishr, 1) := by decide +kernel
theorem d_Md_isIn_23 : decode b_Md_isIn 23 = .ok (.iaload, 1) := by decide +kernel
theorem d_Md_isIn_24 : decode b_Md_isIn 24 = .ok (.iconst 1, 1) := by decide +kernel
theorem d_Md_isIn_25 : decode b_Md_isIn 25 = .ok (.if_icmp .eq 23, 3) := by decide +kernel
theorem d_Md_isIn_28 : decode b_Md_isIn 28 = .ok (.iload_n 2, 1) := by decide +kernel
theorem d_Md_isIn_29 : decode b_Md_isIn 29 = .ok (.iconst 1, 1) := by decide +kernel
theorem d_Md_isIn_30 : decode b_Md_isIn 30 = .ok (.if_icmp .ne 22, 3) := by decide +kernel
theorem d_Md_isIn_33 : decode b_Md_isIn 33 = .ok (.aload_n 0, 1) := by decide +kernel
theorem d_Md_isIn_34 : decode b_Md_isIn 34 = .ok (.getfield 37, 3) := by decide +kernel
theorem d_Md_isIn_37 : decode b_Md_isIn 37 = .ok (.getfield 306, 3) := by decide +kernel
theorem d_Md_isIn_40 : decode b_Md_isIn 40 = .ok (.iload_n 1, 1) := by decide +kernel
theorem d_Md_isIn_41 : decode b_Md_isIn 41 = .ok (.iconst 2, 1) := by decide +kernel
theorem d_Md_isIn_42 : decode b_Md_isIn 42 = .ok (.ishr, 1) := by decide +kernel
theorem d_Md_isIn_43 : decode b_Md_isIn 43 = .ok (.iaload, 1) := by decide +kernel
theorem d_Md_isIn_44 : decode b_Md_isIn 44 = .ok (.iconst (-1), 1) := by decide +kernel
theorem d_Md_isIn_45 : decode b_Md_isIn 45 = .ok (.if_icmp .ne 7, 3) := by decide +kernel
theorem d_Md_isIn_48 : decode b_Md_isIn 48 = .ok (.iconst 1, 1) := by decide +kernel
theorem d_Md_isIn_49 : decode b_Md_isIn 49 = .ok (.goto 4, 3) := by decide +kernel
theorem d_Md_isIn_52 : decode b_Md_isIn 52 = .ok (.iconst 0, 1) := by decide +kernel
theorem d_Md_isIn_53 : decode b_Md_isIn 53 = .ok (.ireturn, 1) := by decide +kernel
theorem d_Md_isLetter_0 : decode b_Md_isLetter 0 = .ok (.iload_n 0, 1) := by decide +kernel
theorem d_Md_isLetter_1 : decode b_Md_isLetter 1 = .ok (.bipush 97, 2) := by decide +kernel
theorem d_Md_isLetter_3 : decode b_Md_isLetter 3 = .ok (.if_icmp .lt 9, 3) := by decide +kernel
theorem d_Md_isLetter_6 : decode b_Md_isLetter 6 = .ok (.iload_n 0, 1) := by decide +kernel
theorem d_Md_isLetter_7 : decode b_Md_isLetter 7 = .ok (.bipush 122, 2) := by decide +kernel
theorem d_Md_isLetter_9 : decode b_Md_isLetter 9 = .ok (.if_icmp .le 15, 3) := by decide +kernel
theorem d_Md_isLetter_12 : decode b_Md_isLetter 12 = .ok (.iload_n 0, 1) := by decide +kernel
theorem d_Md_isLetter_13 : decode b_Md_isLetter 13 = .ok (.bipush 65, 2) := by decide +kernel
theorem d_Md_isLetter_15 : decode b_Md_isLetter 15 = .ok (.if_icmp .lt 13, 3) := by decide +kernel
theorem d_Md_isLetter_18 : decode b_Md_isLetter 18 = .ok (.iload_n 0, 1) := by decide +kernel
theorem d_Md_isLetter_19 : decode b_Md_isLetter 19 = .ok (.bipush 90, 2) := by decide +kernel
theorem d_Md_isLetter_21 : decode b_Md_isLetter 21 = .ok (.if_icmp .gt 7, 3) := by decide +kernel
theorem d_Md_isLetter_24 : decode b_Md_isLetter 24 = .ok (.iconst 1, 1) := by decide +kernel
theorem d_Md_isLetter_25 : decode b_Md_isLetter 25 = .ok (.goto 4, 3) := by decide +kernel
theorem d_Md_isLetter_28 : decode b_Md_isLetter 28 = .ok (.iconst 0, 1) := by decide +kernel
theorem d_Md_isLetter_29 : decode b_Md_isLetter 29 = .ok (.ireturn, 1) := by decide +kernel
theorem d_Md_isNone_0 : decode b_Md_isNone 0 = .ok (.iconst 1, 1) := by decide +kernel
theorem d_Md_isNone_1 : decode b_Md_isNone 1 = .ok (.istore_n 2, 1) := by decide +kernel
theorem d_Md_isNone_2 : decode b_Md_isNone 2 = .ok (.iconst 1, 1) := by decide +kernel
theorem d_Md_isNone_3 : decode b_Md_isNone 3 = .ok (.istore_n 3, 1) := by decide +kernel
theorem d_Md_isNone_4 : decode b_Md_isNone 4 = .ok (.iload_n 3, 1) := by decide +kernel
theorem d_Md_isNone_5 : decode b_Md_isNone 5 = .ok (.aload_n 0, 1) := by decide +kernel
theorem d_Md_isNone_6 : decode b_Md_isNone 6 = .ok (.getfield 395, 3) := by decide +kernel
theorem d_Md_isNone_9 : decode b_Md_isNone 9 = .ok (.if_icmp .gt 34, 3) := by decide +kernel
theorem d_Md_isNone_12 : decode b_Md_isNone 12 = .ok (.iload_n 2, 1) := by decide +kernel
theorem d_Md_isNone_13 : decode b_Md_isNone 13 = .ok (.ifCond .eq 22, 3) := by decide +kernel
theorem d_Md_isNone_16 : decode b_Md_isNone 16 = .ok (.aload_n 0, 1) := by decide +kernel
theorem d_Md_isNone_17 : decode b_Md_isNone 17 = .ok (.getfield 403, 3) := by decide +kernel
theorem d_Md_isNone_20 : decode b_Md_isNone 20 = .ok (.bipush 9, 2) := by decide +kernel
theorem d_Md_isNone_22 : decode b_Md_isNone 22 = .ok (.iload_n 1, 1) := by decide +kernel
theorem d_Md_isNone_23 : decode b_Md_isNone 23 = .ok (.imul, 1) := by decide +kernel
