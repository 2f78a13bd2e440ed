theorem d_Md_reduce_84 : decode b_Md_reduce 84 = .ok (.aload_n 1, 1) := by decide +kernel
theorem d_Md_reduce_85 : decode b_Md_reduce 85 = .ok (.iload 10, 2) := by decide +kernel
theorem d_Md_reduce_87 : decode b_Md_reduce 87 = .ok (.laload, 1) := by decide +kernel
theorem d_Md_reduce_88 : decode b_Md_reduce 88 = .ok (.lmul, 1) := by decide +kernel
theorem d_Md_reduce_89 : decode b_Md_reduce 89 = .ok (.lsub, 1) := by decide +kernel
theorem d_Md_reduce_90 : decode b_Md_reduce 90 = .ok (.lastore, 1) := by decide +kernel
theorem d_Md_reduce_91 : decode b_Md_reduce 91 = .ok (.iinc 10 1, 3) := by decide +kernel
theorem d_Md_reduce_94 : decode b_Md_reduce 94 = .ok (.goto (-27), 3) := by decide +kernel
theorem d_Md_reduce_97 : decode b_Md_reduce 97 = .ok (.aload_n 0, 1) := by decide +kernel
theorem d_Md_reduce_98 : decode b_Md_reduce 98 = .ok (.invokestatic 466, 3) := by decide +kernel
theorem d_Md_reduce_101 : decode b_Md_reduce 101 = .ok (.ifCond .ge 4, 3) := by decide +kernel
theorem d_Md_reduce_104 : decode b_Md_reduce 104 = .ok (.return_, 1) := by decide +kernel
theorem d_Md_reduce_105 : decode b_Md_reduce 105 = .ok (.aload_n 0, 1) := by decide +kernel
theorem d_Md_reduce_106 : decode b_Md_reduce 106 = .ok (.invokestatic 474, 3) := by decide +kernel
theorem d_Md_reduce_109 : decode b_Md_reduce 109 = .ok (.aload_n 0, 1) := by decide +kernel
theorem d_Md_reduce_110 : decode b_Md_reduce 110 = .ok (.aload_n 0, 1) := by decide +kernel
theorem d_Md_reduce_111 : decode b_Md_reduce 111 = .ok (.invokestatic 478, 3) := by decide +kernel
theorem d_Md_reduce_114 : decode b_Md_reduce 114 = .ok (.invokestatic 482, 3) := by decide +kernel
theorem d_Md_reduce_117 : decode b_Md_reduce 117 = .ok (.return_, 1) := by decide +kernel
theorem d_Md_renumber_0 : decode b_Md_renumber 0 = .ok (.iconst 0, 1) := by decide +kernel
theorem d_Md_renumber_1 : decode b_Md_renumber 1 = .ok (.istore_n 1, 1) := by decide +kernel
theorem d_Md_renumber_2 : decode b_Md_renumber 2 = .ok (.iconst 0, 1) := by decide +kernel
theorem d_Md_renumber_3 : decode b_Md_renumber 3 = .ok (.istore_n 2, 1) := by decide +kernel
theorem d_Md_renumber_4 : decode b_Md_renumber 4 = .ok (.iload_n 2, 1) := by decide +kernel
theorem d_Md_renumber_5 : decode b_Md_renumber 5 = .ok (.aload_n 0, 1) := by decide +kernel
theorem d_Md_renumber_6 : decode b_Md_renumber 6 = .ok (.getfield 328, 3) := by decide +kernel
theorem d_Md_renumber_9 : decode b_Md_renumber 9 = .ok (.if_icmp .ge 80, 3) := by decide +kernel
theorem d_Md_renumber_12 : decode b_Md_renumber 12 = .ok (.iconst 0, 1) := by decide +kernel
theorem d_Md_renumber_13 : decode b_Md_renumber 13 = .ok (.istore_n 3, 1) := by decide +kernel
theorem d_Md_renumber_14 : decode b_Md_renumber 14 = .ok (.aload_n 0, 1) := by decide +kernel
theorem d_Md_renumber_15 : decode b_Md_renumber 15 = .ok (.getfield 78, 3) := by decide +kernel
theorem d_Md_renumber_18 : decode b_Md_renumber 18 = .ok (.iload_n 3, 1) := by decide +kernel
theorem d_Md_renumber_19 : decode b_Md_renumber 19 = .ok (.iaload, 1) := by decide +kernel
theorem d_Md_renumber_20 : decode b_Md_renumber 20 = .ok (.iload_n 2, 1) := by decide +kernel
theorem d_Md_renumber_21 : decode b_Md_renumber 21 = .ok (.if_icmp .eq 9, 3) := by decide +kernel
theorem d_Md_renumber_24 : decode b_Md_renumber 24 = .ok (.iinc 3 1, 3) := by decide +kernel
theorem d_Md_renumber_27 : decode b_Md_renumber 27 = .ok (.goto (-13), 3) := by decide +kernel
theorem d_Md_renumber_30 : decode b_Md_renumber 30 = .ok (.iload_n 3, 1) := by decide +kernel
theorem d_Md_renumber_31 : decode b_Md_renumber 31 = .ok (.istore 4, 2) := by decide +kernel
theorem d_Md_renumber_33 : decode b_Md_renumber 33 = .ok (.iinc 1 1, 3) := by decide +kernel
theorem d_Md_renumber_36 : decode b_Md_renumber 36 = .ok (.aload_n 0, 1) := by decide +kernel
theorem d_Md_renumber_37 : decode b_Md_renumber 37 = .ok (.getfield 37, 3) := by decide +kernel
theorem d_Md_renumber_40 : decode b_Md_renumber 40 = .ok (.getfield 318, 3) := by decide +kernel
theorem d_Md_renumber_43 : decode b_Md_renumber 43 = .ok (.aload_n 0, 1) := by decide +kernel
theorem d_Md_renumber_44 : decode b_Md_renumber 44 = .ok (.getfield 69, 3) := by decide +kernel
theorem d_Md_renumber_47 : decode b_Md_renumber 47 = .ok (.iload 4, 2) := by decide +kernel
theorem d_Md_renumber_49 : decode b_Md_renumber 49 = .ok (.iaload, 1) := by decide +kernel
theorem d_Md_renumber_50 : decode b_Md_renumber 50 = .ok (.iload_n 1, 1) := by decide +kernel
theorem d_Md_renumber_51 : decode b_Md_renumber 51 = .ok (.iastore, 1) := by decide +kernel
theorem d_Md_renumber_52 : decode b_Md_renumber 52 = .ok (.aload_n 0, 1) := by decide +kernel
theorem d_Md_renumber_53 : decode b_Md_renumber 53 = .ok (.getfield 37, 3) := by decide +kernel
theorem d_Md_renumber_56 : decode b_Md_renumber 56 = .ok (.getfield 318, 3) := by decide +kernel
theorem d_Md_renumber_59 : decode b_Md_renumber 59 = .ok (.aload_n 0, 1) := by decide +kernel
theorem d_Md_renumber_60 : decode b_Md_renumber 60 = .ok (.getfield 72, 3) := by decide +kernel
theorem d_Md_renumber_63 : decode b_Md_renumber 63 = .ok (.iload 4, 2) := by decide +kernel
theorem d_Md_renumber_65 : decode b_Md_renumber 65 = .ok (.iaload, 1) := by decide +kernel
theorem d_Md_renumber_66 : decode b_Md_renumber 66 = .ok (.iload_n 1, 1) := by decide +kernel
theorem d_Md_renumber_67 : decode b_Md_renumber 67 = .ok (.iastore, 1) := by decide +kernel
theorem d_Md_renumber_68 : decode b_Md_renumber 68 = .ok (.aload_n 0, 1) := by decide +kernel
theorem d_Md_renumber_69 : decode b_Md_renumber 69 = .ok (.getfield 75, 3) := by decide +kernel
theorem d_Md_renumber_72 : decode b_Md_renumber 72 = .ok (.iload 4, 2) := by decide +kernel
theorem d_Md_renumber_74 : decode b_Md_renumber 74 = .ok (.iaload, 1) := by decide +kernel
theorem d_Md_renumber_75 : decode b_Md_renumber 75 = .ok (.istore 4, 2) := by decide +kernel
theorem d_Md_renumber_77 : decode b_Md_renumber 77 = .ok (.iload 4, 2) := by decide +kernel
theorem d_Md_renumber_79 : decode b_Md_renumber 79 = .ok (.iload_n 3, 1) := by decide +kernel
theorem d_Md_renumber_80 : decode b_Md_renumber 80 = .ok (.if_icmp .ne (-47), 3) := by decide +kernel
theorem d_Md_renumber_83 : decode b_Md_renumber 83 = .ok (.iinc 2 1, 3) := by decide +kernel
theorem d_Md_renumber_86 : decode b_Md_renumber 86 = .ok (.goto (-82), 3) := by decide +kernel
theorem d_Md_renumber_89 : decode b_Md_renumber 89 = .ok (.return_, 1) := by decide +kernel
theorem d_Md_reverse_0 : decode b_Md_reverse 0 = .ok (.iconst 0, 1) := by decide +kernel
theorem d_Md_reverse_1 : decode b_Md_reverse 1 = .ok (.istore_n 2, 1) := by decide +kernel
theorem d_Md_reverse_2 : decode b_Md_reverse 2 = .ok (.iload_n 2, 1) := by decide +kernel
theorem d_Md_reverse_3 : decode b_Md_reverse 3 = .ok (.aload_n 0, 1) := by decide +kernel
theorem d_Md_reverse_4 : decode b_Md_reverse 4 = .ok (.getfield 37, 3) := by decide +kernel
theorem d_Md_reverse_7 : decode b_Md_reverse 7 = .ok (.getfield 312, 3) := by decide +kernel
theorem d_Md_reverse_10 : decode b_Md_reverse 10 = .ok (.if_icmp .ge 93, 3) := by decide +kernel
theorem d_Md_reverse_13 : decode b_Md_reverse 13 = .ok (.aload_n 0, 1) := by decide +kernel
theorem d_Md_reverse_14 : decode b_Md_reverse 14 = .ok (.getfield 78, 3) := by decide +kernel
theorem d_Md_reverse_17 : decode b_Md_reverse 17 = .ok (.aload_n 0, 1) := by decide +kernel
theorem d_Md_reverse_18 : decode b_Md_reverse 18 = .ok (.getfield 81, 3) := by decide +kernel
theorem d_Md_reverse_21 : decode b_Md_reverse 21 = .ok (.iconst 4, 1) := by decide +kernel
theorem d_Md_reverse_22 : decode b_Md_reverse 22 = .ok (.iload_n 2, 1) := by decide +kernel
theorem d_Md_reverse_23 : decode b_Md_reverse 23 = .ok (.imul, 1) := by decide +kernel
theorem d_Md_reverse_24 : decode b_Md_reverse 24 = .ok (.iaload, 1) := by decide +kernel
theorem d_Md_reverse_25 : decode b_Md_reverse 25 = .ok (.iaload, 1) := by decide +kernel
theorem d_Md_reverse_26 : decode b_Md_reverse 26 = .ok (.iload_n 1, 1) := by decide +kernel
theorem d_Md_reverse_27 : decode b_Md_reverse 27 = .ok (.if_icmp .ne 7, 3) := by decide +kernel
theorem d_Md_reverse_30 : decode b_Md_reverse 30 = .ok (.iconst 1, 1) := by decide +kernel
theorem d_Md_reverse_31 : decode b_Md_reverse 31 = .ok (.goto 4, 3) := by decide +kernel
theorem d_Md_reverse_34 : decode b_Md_reverse 34 = .ok (.iconst 0, 1) := by decide +kernel
theorem d_Md_reverse_35 : decode b_Md_reverse 35 = .ok (.istore_n 3, 1) := by decide +kernel
theorem d_Md_reverse_36 : decode b_Md_reverse 36 = .ok (.aload_n 0, 1) := by decide +kernel
theorem d_Md_reverse_37 : decode b_Md_reverse 37 = .ok (.getfield 78, 3) := by decide +kernel
theorem d_Md_reverse_40 : decode b_Md_reverse 40 = .ok (.aload_n 0, 1) := by decide +kernel
theorem d_Md_reverse_41 : decode b_Md_reverse 41 = .ok (.getfield 81, 3) := by decide +kernel
theorem d_Md_reverse_44 : decode b_Md_reverse 44 = .ok (.iconst 4, 1) := by decide +kernel
theorem d_Md_reverse_45 : decode b_Md_reverse 45 = .ok (.iload_n 2, 1) := by decide +kernel
theorem d_Md_reverse_46 : decode b_Md_reverse 46 = .ok (.imul, 1) := by decide +kernel
theorem d_Md_reverse_47 : decode b_Md_reverse 47 = .ok (.iconst 1, 1) := by decide +kernel
theorem d_Md_reverse_48 : decode b_Md_reverse 48 = .ok (.iadd, 1) := by decide +kernel
theorem d_Md_reverse_49 : decode b_Md_reverse 49 = .ok (.iaload, 1) := by decide +kernel
theorem d_Md_reverse_50 : decode b_Md_reverse 50 = .ok (.iaload, 1) := by decide +kernel
theorem d_Md_reverse_51 : decode b_Md_reverse 51 = .ok (.iload_n 1, 1) := by decide +kernel
theorem d_Md_reverse_52 : decode b_Md_reverse 52 = .ok (.if_icmp .ne 7, 3) := by decide +kernel
theorem d_Md_reverse_55 : decode b_Md_reverse 55 = .ok (.iconst 1, 1) := by decide +kernel
theorem d_Md_reverse_56 : decode b_Md_reverse 56 = .ok (.goto 4, 3) := by decide +kernel
theorem d_Md_reverse_59 : decode b_Md_reverse 59 = .ok (.iconst 0, 1) := by decide +kernel
theorem d_Md_reverse_60 : decode b_Md_reverse 60 = .ok (.istore 4, 2) := by decide +kernel
theorem d_Md_reverse_62 : decode b_Md_reverse 62 = .ok (.iload_n 3, 1) := by decide +kernel
theorem d_Md_reverse_63 : decode b_Md_reverse 63 = .ok (.iload 4, 2) := by decide +kernel
theorem d_Md_reverse_65 : decode b_Md_reverse 65 = .ok (.if_icmp .eq 22, 3) := by decide +kernel
theorem d_Md_reverse_68 : decode b_Md_reverse 68 = .ok (.aload_n 0, 1) := by decide +kernel
theorem d_Md_reverse_69 : decode b_Md_reverse 69 = .ok (.getfield 37, 3) := by decide +kernel
theorem d_Md_reverse_72 : decode b_Md_reverse 72 = .ok (.getfield 306, 3) := by decide +kernel
theorem d_Md_reverse_75 : decode b_Md_reverse 75 = .ok (.iload_n 2, 1) := by decide +kernel
theorem d_Md_reverse_76 : decode b_Md_reverse 76 = .ok (.aload_n 0, 1) := by decide +kernel
theorem d_Md_reverse_77 : decode b_Md_reverse 77 = .ok (.getfield 37, 3) := by decide +kernel
theorem d_Md_reverse_80 : decode b_Md_reverse 80 = .ok (.getfield 306, 3) := by decide +kernel
theorem d_Md_reverse_83 : decode b_Md_reverse 83 = .ok (.iload_n 2, 1) := by decide +kernel
theorem d_Md_reverse_84 : decode b_Md_reverse 84 = .ok (.iaload, 1) := by decide +kernel
theorem d_Md_reverse_85 : decode b_Md_reverse 85 = .ok (.ineg, 1) := by decide +kernel
theorem d_Md_reverse_86 : decode b_Md_reverse 86 = .ok (.iastore, 1) := by decide +kernel
theorem d_Md_reverse_87 : decode b_Md_reverse 87 = .ok (.iload_n 3, 1) := by decide +kernel
theorem d_Md_reverse_88 : decode b_Md_reverse 88 = .ok (.ifCond .eq 9, 3) := by decide +kernel
theorem d_Md_reverse_91 : decode b_Md_reverse 91 = .ok (.aload_n 0, 1) := by decide +kernel
theorem d_Md_reverse_92 : decode b_Md_reverse 92 = .ok (.iload_n 2, 1) := by decide +kernel
theorem d_Md_reverse_93 : decode b_Md_reverse 93 = .ok (.iconst 2, 1) := by decide +kernel
theorem d_Md_reverse_94 : decode b_Md_reverse 94 = .ok (.invokevirtual 392, 3) := by decide +kernel
theorem d_Md_reverse_97 : decode b_Md_reverse 97 = .ok (.iinc 2 1, 3) := by decide +kernel
theorem d_Md_reverse_100 : decode b_Md_reverse 100 = .ok (.goto (-98), 3) := by decide +kernel
theorem d_Md_reverse_103 : decode b_Md_reverse 103 = .ok (.return_, 1) := by decide +kernel
theorem d_Md_reverseAt_0 : decode b_Md_reverseAt 0 = .ok (.iload_n 1, 1) := by decide +kernel
theorem d_Md_reverseAt_1 : decode b_Md_reverseAt 1 = .ok (.aload_n 0, 1) := by decide +kernel
theorem d_Md_reverseAt_2 : decode b_Md_reverseAt 2 = .ok (.getfield 328, 3) := by decide +kernel
theorem d_Md_reverseAt_5 : decode b_Md_reverseAt 5 = .ok (.aload_n 0, 1) := by decide +kernel
theorem d_Md_reverseAt_6 : decode b_Md_reverseAt 6 = .ok (.getfield 37, 3) := by decide +kernel
theorem d_Md_reverseAt_9 : decode b_Md_reverseAt 9 = .ok (.getfield 354, 3) := by decide +kernel
theorem d_Md_reverseAt_12 : decode b_Md_reverseAt 12 = .ok (.iadd, 1) := by decide +kernel
theorem d_Md_reverseAt_13 : decode b_Md_reverseAt 13 = .ok (.if_icmp .lt 5, 3) := by decide +kernel
theorem d_Md_reverseAt_16 : decode b_Md_reverseAt 16 = .ok (.iconst 0, 1) := by decide +kernel
theorem d_Md_reverseAt_17 : decode b_Md_reverseAt 17 = .ok (.ireturn, 1) := by decide +kernel
theorem d_Md_reverseAt_18 : decode b_Md_reverseAt 18 = .ok (.iload_n 1, 1) := by decide +kernel
theorem d_Md_reverseAt_19 : decode b_Md_reverseAt 19 = .ok (.aload_n 0, 1) := by decide +kernel
theorem d_Md_reverseAt_20 : decode b_Md_reverseAt 20 = .ok (.getfield 328, 3) := by decide +kernel
theorem d_Md_reverseAt_23 : decode b_Md_reverseAt 23 = .ok (.if_icmp .ge 8, 3) := by decide +kernel
theorem d_Md_reverseAt_26 : decode b_Md_reverseAt 26 = .ok (.aload_n 0, 1) := by decide +kernel
theorem d_Md_reverseAt_27 : decode b_Md_reverseAt 27 = .ok (.iload_n 1, 1) := by decide +kernel
theorem d_Md_reverseAt_28 : decode b_Md_reverseAt 28 = .ok (.invokevirtual 588, 3) := by decide +kernel
theorem d_Md_reverseAt_31 : decode b_Md_reverseAt 31 = .ok (.iconst 1, 1) := by decide +kernel
theorem d_Md_reverseAt_32 : decode b_Md_reverseAt 32 = .ok (.ireturn, 1) := by decide +kernel
theorem d_Md_rootOf_0 : decode b_Md_rootOf 0 = .ok (.iload_n 1, 1) := by decide +kernel
theorem d_Md_rootOf_1 : decode b_Md_rootOf 1 = .ok (.istore_n 2, 1) := by decide +kernel
theorem d_Md_rootOf_2 : decode b_Md_rootOf 2 = .ok (.aload_n 0, 1) := by decide +kernel
theorem d_Md_rootOf_3 : decode b_Md_rootOf 3 = .ok (.getfield 102, 3) := by decide +kernel
theorem d_Md_rootOf_6 : decode b_Md_rootOf 6 = .ok (.iload_n 2, 1) := by decide +kernel
theorem d_Md_rootOf_7 : decode b_Md_rootOf 7 = .ok (.iaload, 1) := by decide +kernel
theorem d_Md_rootOf_8 : decode b_Md_rootOf 8 = .ok (.iload_n 2, 1) := by decide +kernel
theorem d_Md_rootOf_9 : decode b_Md_rootOf 9 = .ok (.if_icmp .eq 13, 3) := by decide +kernel
theorem d_Md_rootOf_12 : decode b_Md_rootOf 12 = .ok (.aload_n 0, 1) := by decide +kernel
theorem d_Md_rootOf_13 : decode b_Md_rootOf 13 = .ok (.getfield 102, 3) := by decide +kernel
theorem d_Md_rootOf_16 : decode b_Md_rootOf 16 = .ok (.iload_n 2, 1) := by decide +kernel
theorem d_Md_rootOf_17 : decode b_Md_rootOf 17 = .ok (.iaload, 1) := by decide +kernel
theorem d_Md_rootOf_18 : decode b_Md_rootOf 18 = .ok (.istore_n 2, 1) := by decide +kernel
theorem d_Md_rootOf_19 : decode b_Md_rootOf 19 = .ok (.goto (-17), 3) := by decide +kernel
theorem d_Md_rootOf_22 : decode b_Md_rootOf 22 = .ok (.iload_n 2, 1) := by decide +kernel
theorem d_Md_rootOf_23 : decode b_Md_rootOf 23 = .ok (.ireturn, 1) := by decide +kernel
theorem d_Md_rotate_0 : decode b_Md_rotate 0 = .ok (.aload_n 0, 1) := by decide +kernel
theorem d_Md_rotate_1 : decode b_Md_rotate 1 = .ok (.getfield 37, 3) := by decide +kernel
theorem d_Md_rotate_4 : decode b_Md_rotate 4 = .ok (.getfield 318, 3) := by decide +kernel
theorem d_Md_rotate_7 : decode b_Md_rotate 7 = .ok (.iconst 4, 1) := by decide +kernel
theorem d_Md_rotate_8 : decode b_Md_rotate 8 = .ok (.iload_n 1, 1) := by decide +kernel
theorem d_Md_rotate_9 : decode b_Md_rotate 9 = .ok (.imul, 1) := by decide +kernel
theorem d_Md_rotate_10 : decode b_Md_rotate 10 = .ok (.iaload, 1) := by decide +kernel
theorem d_Md_rotate_11 : decode b_Md_rotate 11 = .ok (.istore_n 3, 1) := by decide +kernel
theorem d_Md_rotate_12 : decode b_Md_rotate 12 = .ok (.aload_n 0, 1) := by decide +kernel
theorem d_Md_rotate_13 : decode b_Md_rotate 13 = .ok (.getfield 37, 3) := by decide +kernel
theorem d_Md_rotate_16 : decode b_Md_rotate 16 = .ok (.getfield 318, 3) := by decide +kernel
theorem d_Md_rotate_19 : decode b_Md_rotate 19 = .ok (.iconst 4, 1) := by decide +kernel
theorem d_Md_rotate_20 : decode b_Md_rotate 20 = .ok (.iload_n 1, 1) := by decide +kernel
theorem d_Md_rotate_21 : decode b_Md_rotate 21 = .ok (.imul, 1) := by decide +kernel
theorem d_Md_rotate_22 : decode b_Md_rotate 22 = .ok (.iconst 1, 1) := by decide +kernel
theorem d_Md_rotate_23 : decode b_Md_rotate 23 = .ok (.iadd, 1) := by decide +kernel
theorem d_Md_rotate_24 : decode b_Md_rotate 24 = .ok (.iaload, 1) := by decide +kernel
theorem d_Md_rotate_25 : decode b_Md_rotate 25 = .ok (.istore 4, 2) := by decide +kernel
theorem d_Md_rotate_27 : decode b_Md_rotate 27 = .ok (.aload_n 0, 1) := by decide +kernel
theorem d_Md_rotate_28 : decode b_Md_rotate 28 = .ok (.getfield 37, 3) := by decide +kernel
theorem d_Md_rotate_31 : decode b_Md_rotate 31 = .ok (.getfield 318, 3) := by decide +kernel
theorem d_Md_rotate_34 : decode b_Md_rotate 34 = .ok (.iconst 4, 1) := by decide +kernel
theorem d_Md_rotate_35 : decode b_Md_rotate 35 = .ok (.iload_n 1, 1) := by decide +kernel
theorem d_Md_rotate_36 : decode b_Md_rotate 36 = .ok (.imul, 1) := by decide +kernel
theorem d_Md_rotate_37 : decode b_Md_rotate 37 = .ok (.iconst 2, 1) := by decide +kernel
theorem d_Md_rotate_38 : decode b_Md_rotate 38 = .ok (.iadd, 1) := by decide +kernel
theorem d_Md_rotate_39 : decode b_Md_rotate 39 = .ok (.iaload, 1) := by decide +kernel
theorem d_Md_rotate_40 : decode b_Md_rotate 40 = .ok (.istore 5, 2) := by decide +kernel
theorem d_Md_rotate_42 : decode b_Md_rotate 42 = .ok (.aload_n 0, 1) := by decide +kernel
theorem d_Md_rotate_43 : decode b_Md_rotate 43 = .ok (.getfield 37, 3) := by decide +kernel
theorem d_Md_rotate_46 : decode b_Md_rotate 46 = .ok (.getfield 318, 3) := by decide +kernel
theorem d_Md_rotate_49 : decode b_Md_rotate 49 = .ok (.iconst 4, 1) := by decide +kernel
theorem d_Md_rotate_50 : decode b_Md_rotate 50 = .ok (.iload_n 1, 1) := by decide +kernel
theorem d_Md_rotate_51 : decode b_Md_rotate 51 = .ok (.imul, 1) := by decide +kernel
