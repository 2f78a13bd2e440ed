theorem d_Md_readText_21 : decode b_Md_readText 21 = .ok (.iconst 0, 1) := by decide +kernel
theorem d_Md_readText_22 : decode b_Md_readText 22 = .ok (.putfield 126, 3) := by decide +kernel
theorem d_Md_readText_25 : decode b_Md_readText 25 = .ok (.aload_n 0, 1) := by decide +kernel
theorem d_Md_readText_26 : decode b_Md_readText 26 = .ok (.iconst (-1), 1) := by decide +kernel
theorem d_Md_readText_27 : decode b_Md_readText 27 = .ok (.putfield 19, 3) := by decide +kernel
theorem d_Md_readText_30 : decode b_Md_readText 30 = .ok (.iconst 1, 1) := by decide +kernel
theorem d_Md_readText_31 : decode b_Md_readText 31 = .ok (.istore_n 1, 1) := by decide +kernel
theorem d_Md_readText_32 : decode b_Md_readText 32 = .ok (.iload_n 1, 1) := by decide +kernel
theorem d_Md_readText_33 : decode b_Md_readText 33 = .ok (.ifCond .eq 65, 3) := by decide +kernel
theorem d_Md_readText_36 : decode b_Md_readText 36 = .ok (.aload_n 0, 1) := by decide +kernel
theorem d_Md_readText_37 : decode b_Md_readText 37 = .ok (.getfield 126, 3) := by decide +kernel
theorem d_Md_readText_40 : decode b_Md_readText 40 = .ok (.ifCond .ne 58, 3) := by decide +kernel
theorem d_Md_readText_43 : decode b_Md_readText 43 = .ok (.aload_n 0, 1) := by decide +kernel
theorem d_Md_readText_44 : decode b_Md_readText 44 = .ok (.invokevirtual 179, 3) := by decide +kernel
theorem d_Md_readText_47 : decode b_Md_readText 47 = .ok (.aload_n 0, 1) := by decide +kernel
theorem d_Md_readText_48 : decode b_Md_readText 48 = .ok (.getfield 129, 3) := by decide +kernel
theorem d_Md_readText_51 : decode b_Md_readText 51 = .ok (.ifCond .eq 10, 3) := by decide +kernel
theorem d_Md_readText_61 : decode b_Md_readText 61 = .ok (.aload_n 0, 1) := by decide +kernel
theorem d_Md_readText_62 : decode b_Md_readText 62 = .ok (.getfield 126, 3) := by decide +kernel
theorem d_Md_readText_65 : decode b_Md_readText 65 = .ok (.ifCond .ne (-33), 3) := by decide +kernel
theorem d_Md_readText_68 : decode b_Md_readText 68 = .ok (.aload_n 0, 1) := by decide +kernel
theorem d_Md_readText_69 : decode b_Md_readText 69 = .ok (.getfield 132, 3) := by decide +kernel
theorem d_Md_readText_72 : decode b_Md_readText 72 = .ok (.aload_n 0, 1) := by decide +kernel
theorem d_Md_readText_73 : decode b_Md_readText 73 = .ok (.getfield 135, 3) := by decide +kernel
theorem d_Md_readText_76 : decode b_Md_readText 76 = .ok (.if_icmp .ge 7, 3) := by decide +kernel
theorem d_Md_readText_83 : decode b_Md_readText 83 = .ok (.iconst 0, 1) := by decide +kernel
theorem d_Md_readText_84 : decode b_Md_readText 84 = .ok (.istore_n 1, 1) := by decide +kernel
theorem d_Md_readText_85 : decode b_Md_readText 85 = .ok (.aload_n 0, 1) := by decide +kernel
theorem d_Md_readText_86 : decode b_Md_readText 86 = .ok (.dup, 1) := by decide +kernel
theorem d_Md_readText_87 : decode b_Md_readText 87 = .ok (.getfield 132, 3) := by decide +kernel
theorem d_Md_readText_90 : decode b_Md_readText 90 = .ok (.iconst 1, 1) := by decide +kernel
theorem d_Md_readText_91 : decode b_Md_readText 91 = .ok (.iadd, 1) := by decide +kernel
theorem d_Md_readText_92 : decode b_Md_readText 92 = .ok (.putfield 132, 3) := by decide +kernel
theorem d_Md_readText_95 : decode b_Md_readText 95 = .ok (.goto (-63), 3) := by decide +kernel
theorem d_Md_readText_98 : decode b_Md_readText 98 = .ok (.aload_n 0, 1) := by decide +kernel
theorem d_Md_readText_99 : decode b_Md_readText 99 = .ok (.getfield 27, 3) := by decide +kernel
theorem d_Md_readText_102 : decode b_Md_readText 102 = .ok (.aload_n 0, 1) := by decide +kernel
theorem d_Md_readText_103 : decode b_Md_readText 103 = .ok (.getfield 284, 3) := by decide +kernel
theorem d_Md_readText_106 : decode b_Md_readText 106 = .ok (.aload_n 0, 1) := by decide +kernel
theorem d_Md_readText_107 : decode b_Md_readText 107 = .ok (.getfield 189, 3) := by decide +kernel
theorem d_Md_readText_110 : decode b_Md_readText 110 = .ok (.iastore, 1) := by decide +kernel
theorem d_Md_readText_111 : decode b_Md_readText 111 = .ok (.aload_n 0, 1) := by decide +kernel
theorem d_Md_readText_112 : decode b_Md_readText 112 = .ok (.getfield 126, 3) := by decide +kernel
theorem d_Md_readText_115 : decode b_Md_readText 115 = .ok (.ifCond .eq 8, 3) := by decide +kernel
theorem d_Md_readText_123 : decode b_Md_readText 123 = .ok (.return_, 1) := by decide +kernel
theorem d_Md_read_0 : decode b_Md_read 0 = .ok (.iload_n 1, 1) := by decide +kernel
theorem d_Md_read_1 : decode b_Md_read 1 = .ok (.ifCond .lt 11, 3) := by decide +kernel
theorem d_Md_read_12 : decode b_Md_read 12 = .ok (.bipush (-2), 2) := by decide +kernel
theorem d_Md_read_14 : decode b_Md_read 14 = .ok (.ireturn, 1) := by decide +kernel
theorem d_Md_read_4 : decode b_Md_read 4 = .ok (.iload_n 1, 1) := by decide +kernel
theorem d_Md_read_5 : decode b_Md_read 5 = .ok (.aload_n 0, 1) := by decide +kernel
theorem d_Md_read_6 : decode b_Md_read 6 = .ok (.getfield 296, 3) := by decide +kernel
theorem d_Md_read_9 : decode b_Md_read 9 = .ok (.if_icmp .le 6, 3) := by decide +kernel
theorem d_Md_read_15 : decode b_Md_read 15 = .ok (.iconst 0, 1) := by decide +kernel
theorem d_Md_read_16 : decode b_Md_read 16 = .ok (.istore_n 2, 1) := by decide +kernel
theorem d_Md_read_17 : decode b_Md_read 17 = .ok (.iload_n 2, 1) := by decide +kernel
theorem d_Md_read_18 : decode b_Md_read 18 = .ok (.iload_n 1, 1) := by decide +kernel
theorem d_Md_read_19 : decode b_Md_read 19 = .ok (.if_icmp .ge 21, 3) := by decide +kernel
theorem d_Md_read_40 : decode b_Md_read 40 = .ok (.aload_n 0, 1) := by decide +kernel
theorem d_Md_read_41 : decode b_Md_read 41 = .ok (.iload_n 1, 1) := by decide +kernel
theorem d_Md_read_42 : decode b_Md_read 42 = .ok (.putfield 135, 3) := by decide +kernel
theorem d_Md_read_45 : decode b_Md_read 45 = .ok (.aload_n 0, 1) := by decide +kernel
theorem d_Md_read_46 : decode b_Md_read 46 = .ok (.iconst 0, 1) := by decide +kernel
theorem d_Md_read_47 : decode b_Md_read 47 = .ok (.putfield 296, 3) := by decide +kernel
theorem d_Md_read_50 : decode b_Md_read 50 = .ok (.aload_n 0, 1) := by decide +kernel
theorem d_Md_read_51 : decode b_Md_read 51 = .ok (.iconst 1, 1) := by decide +kernel
theorem d_Md_read_52 : decode b_Md_read 52 = .ok (.putfield 299, 3) := by decide +kernel
theorem d_Md_read_55 : decode b_Md_read 55 = .ok (.aload_n 0, 1) := by decide +kernel
theorem d_Md_read_56 : decode b_Md_read 56 = .ok (.invokevirtual 303, 3) := by decide +kernel
theorem d_Md_read_59 : decode b_Md_read 59 = .ok (.aload_n 0, 1) := by decide +kernel
theorem d_Md_read_60 : decode b_Md_read 60 = .ok (.getfield 126, 3) := by decide +kernel
theorem d_Md_read_63 : decode b_Md_read 63 = .ok (.ifCond .eq 7, 3) := by decide +kernel
theorem d_Md_read_70 : decode b_Md_read 70 = .ok (.aload_n 0, 1) := by decide +kernel
theorem d_Md_read_71 : decode b_Md_read 71 = .ok (.getfield 284, 3) := by decide +kernel
theorem d_Md_read_74 : decode b_Md_read 74 = .ok (.ireturn, 1) := by decide +kernel
theorem d_Md_run_0 : decode b_Md_run 0 = .ok (.iload_n 1, 1) := by decide +kernel
theorem d_Md_run_1 : decode b_Md_run 1 = .ok (.ifCond .lt 9, 3) := by decide +kernel
theorem d_Md_run_10 : decode b_Md_run 10 = .ok (.iconst (-1), 1) := by decide +kernel
theorem d_Md_run_11 : decode b_Md_run 11 = .ok (.ireturn, 1) := by decide +kernel
theorem d_Md_run_4 : decode b_Md_run 4 = .ok (.iload_n 1, 1) := by decide +kernel
theorem d_Md_run_5 : decode b_Md_run 5 = .ok (.bipush 16, 2) := by decide +kernel
theorem d_Md_run_7 : decode b_Md_run 7 = .ok (.if_icmp .le 5, 3) := by decide +kernel
theorem d_Md_run_12 : decode b_Md_run 12 = .ok (.iconst 0, 1) := by decide +kernel
theorem d_Md_run_13 : decode b_Md_run 13 = .ok (.istore_n 2, 1) := by decide +kernel
theorem d_Md_run_14 : decode b_Md_run 14 = .ok (.iconst 1, 1) := by decide +kernel
theorem d_Md_run_15 : decode b_Md_run 15 = .ok (.istore_n 3, 1) := by decide +kernel
theorem d_Md_run_16 : decode b_Md_run 16 = .ok (.iload_n 3, 1) := by decide +kernel
theorem d_Md_run_17 : decode b_Md_run 17 = .ok (.ifCond .eq 67, 3) := by decide +kernel
theorem d_Md_run_20 : decode b_Md_run 20 = .ok (.iload_n 2, 1) := by decide +kernel
theorem d_Md_run_21 : decode b_Md_run 21 = .ok (.iload_n 1, 1) := by decide +kernel
theorem d_Md_run_22 : decode b_Md_run 22 = .ok (.if_icmp .ge 62, 3) := by decide +kernel
theorem d_Md_run_84 : decode b_Md_run 84 = .ok (.iload_n 2, 1) := by decide +kernel
theorem d_Md_run_85 : decode b_Md_run 85 = .ok (.ireturn, 1) := by decide +kernel
theorem d_Md_run_25 : decode b_Md_run 25 = .ok (.aload_n 0, 1) := by decide +kernel
theorem d_Md_run_26 : decode b_Md_run 26 = .ok (.getfield 290, 3) := by decide +kernel
theorem d_Md_run_29 : decode b_Md_run 29 = .ok (.aload_n 0, 1) := by decide +kernel
theorem d_Md_run_30 : decode b_Md_run 30 = .ok (.getfield 284, 3) := by decide +kernel
theorem d_Md_run_33 : decode b_Md_run 33 = .ok (.if_icmp .ge 51, 3) := by decide +kernel
theorem d_Md_crossing_0 : decode b_Md_crossing 0 = .ok (.iload_n 1, 1) := by decide +kernel
theorem d_Md_crossing_1 : decode b_Md_crossing 1 = .ok (.ifCond .lt 23, 3) := by decide +kernel
theorem d_Md_crossing_24 : decode b_Md_crossing 24 = .ok (.iconst 0, 1) := by decide +kernel
theorem d_Md_crossing_25 : decode b_Md_crossing 25 = .ok (.ireturn, 1) := by decide +kernel
theorem d_Md_crossing_4 : decode b_Md_crossing 4 = .ok (.iload_n 1, 1) := by decide +kernel
theorem d_Md_crossing_5 : decode b_Md_crossing 5 = .ok (.aload_n 0, 1) := by decide +kernel
theorem d_Md_crossing_6 : decode b_Md_crossing 6 = .ok (.getfield 37, 3) := by decide +kernel
theorem d_Md_crossing_9 : decode b_Md_crossing 9 = .ok (.getfield 312, 3) := by decide +kernel
theorem d_Md_crossing_12 : decode b_Md_crossing 12 = .ok (.if_icmp .ge 12, 3) := by decide +kernel
theorem d_Md_printed_0 : decode b_Md_printed 0 = .ok (.iload_n 1, 1) := by decide +kernel
theorem d_Md_printed_1 : decode b_Md_printed 1 = .ok (.ifCond .lt 24, 3) := by decide +kernel
theorem d_Md_printed_25 : decode b_Md_printed 25 = .ok (.iconst (-1), 1) := by decide +kernel
theorem d_Md_printed_26 : decode b_Md_printed 26 = .ok (.ireturn, 1) := by decide +kernel
theorem d_Md_printed_4 : decode b_Md_printed 4 = .ok (.iload_n 1, 1) := by decide +kernel
theorem d_Md_printed_5 : decode b_Md_printed 5 = .ok (.aload_n 0, 1) := by decide +kernel
theorem d_Md_printed_6 : decode b_Md_printed 6 = .ok (.getfield 674, 3) := by decide +kernel
theorem d_Md_printed_9 : decode b_Md_printed 9 = .ok (.if_icmp .ge 16, 3) := by decide +kernel
theorem d_Md_wipe_0 : decode b_Md_wipe 0 = .ok (.aload_n 0, 1) := by decide +kernel
theorem d_Md_wipe_1 : decode b_Md_wipe 1 = .ok (.getfield 674, 3) := by decide +kernel
theorem d_Md_wipe_4 : decode b_Md_wipe 4 = .ok (.istore_n 2, 1) := by decide +kernel
theorem d_Md_wipe_5 : decode b_Md_wipe 5 = .ok (.aload_n 0, 1) := by decide +kernel
theorem d_Md_wipe_6 : decode b_Md_wipe 6 = .ok (.iconst 0, 1) := by decide +kernel
theorem d_Md_wipe_7 : decode b_Md_wipe 7 = .ok (.putfield 674, 3) := by decide +kernel
theorem d_Md_wipe_10 : decode b_Md_wipe 10 = .ok (.iload_n 1, 1) := by decide +kernel
theorem d_Md_wipe_11 : decode b_Md_wipe 11 = .ok (.ifCond .ne 5, 3) := by decide +kernel
theorem d_Md_wipe_16 : decode b_Md_wipe 16 = .ok (.iconst 0, 1) := by decide +kernel
theorem d_Md_wipe_17 : decode b_Md_wipe 17 = .ok (.istore_n 3, 1) := by decide +kernel
theorem d_Md_wipe_18 : decode b_Md_wipe 18 = .ok (.iload_n 3, 1) := by decide +kernel
theorem d_Md_wipe_19 : decode b_Md_wipe 19 = .ok (.iload_n 2, 1) := by decide +kernel
theorem d_Md_wipe_20 : decode b_Md_wipe 20 = .ok (.if_icmp .ge 21, 3) := by decide +kernel
theorem d_Md_wipe_41 : decode b_Md_wipe 41 = .ok (.aload_n 0, 1) := by decide +kernel
theorem d_Md_wipe_42 : decode b_Md_wipe 42 = .ok (.iload_n 2, 1) := by decide +kernel
theorem d_Md_wipe_43 : decode b_Md_wipe 43 = .ok (.putfield 296, 3) := by decide +kernel
theorem d_Md_wipe_46 : decode b_Md_wipe 46 = .ok (.iload_n 2, 1) := by decide +kernel
theorem d_Md_wipe_47 : decode b_Md_wipe 47 = .ok (.ireturn, 1) := by decide +kernel
theorem d_Md_wipe_14 : decode b_Md_wipe 14 = .ok (.iload_n 2, 1) := by decide +kernel
theorem d_Md_wipe_15 : decode b_Md_wipe 15 = .ok (.ireturn, 1) := by decide +kernel
theorem d_Md_norm_0 : decode b_Md_norm 0 = .ok (.aload_n 0, 1) := by decide +kernel
theorem d_Md_norm_1 : decode b_Md_norm 1 = .ok (.iconst 0, 1) := by decide +kernel
theorem d_Md_norm_2 : decode b_Md_norm 2 = .ok (.putfield 406, 3) := by decide +kernel
theorem d_Md_norm_5 : decode b_Md_norm 5 = .ok (.aload_n 0, 1) := by decide +kernel
theorem d_Md_norm_6 : decode b_Md_norm 6 = .ok (.iconst 0, 1) := by decide +kernel
theorem d_Md_norm_7 : decode b_Md_norm 7 = .ok (.putfield 409, 3) := by decide +kernel
theorem d_Md_norm_10 : decode b_Md_norm 10 = .ok (.iconst 0, 1) := by decide +kernel
theorem d_Md_norm_11 : decode b_Md_norm 11 = .ok (.istore_n 1, 1) := by decide +kernel
theorem d_Md_norm_12 : decode b_Md_norm 12 = .ok (.iload_n 1, 1) := by decide +kernel
theorem d_Md_norm_13 : decode b_Md_norm 13 = .ok (.aload_n 0, 1) := by decide +kernel
theorem d_Md_norm_14 : decode b_Md_norm 14 = .ok (.getfield 398, 3) := by decide +kernel
theorem d_Md_norm_17 : decode b_Md_norm 17 = .ok (.if_icmp .ge 19, 3) := by decide +kernel
theorem d_Md_norm_36 : decode b_Md_norm 36 = .ok (.iconst 1, 1) := by decide +kernel
theorem d_Md_norm_37 : decode b_Md_norm 37 = .ok (.istore_n 1, 1) := by decide +kernel
theorem d_Md_norm_38 : decode b_Md_norm 38 = .ok (.iload_n 1, 1) := by decide +kernel
theorem d_Md_norm_39 : decode b_Md_norm 39 = .ok (.ifCond .eq 71, 3) := by decide +kernel
theorem d_Md_norm_42 : decode b_Md_norm 42 = .ok (.iconst 0, 1) := by decide +kernel
theorem d_Md_norm_43 : decode b_Md_norm 43 = .ok (.istore_n 1, 1) := by decide +kernel
theorem d_Md_norm_44 : decode b_Md_norm 44 = .ok (.iconst 1, 1) := by decide +kernel
theorem d_Md_norm_45 : decode b_Md_norm 45 = .ok (.istore_n 2, 1) := by decide +kernel
theorem d_Md_norm_46 : decode b_Md_norm 46 = .ok (.iload_n 2, 1) := by decide +kernel
theorem d_Md_norm_47 : decode b_Md_norm 47 = .ok (.aload_n 0, 1) := by decide +kernel
theorem d_Md_norm_48 : decode b_Md_norm 48 = .ok (.getfield 409, 3) := by decide +kernel
theorem d_Md_norm_51 : decode b_Md_norm 51 = .ok (.if_icmp .ge 56, 3) := by decide +kernel
theorem d_Md_norm_107 : decode b_Md_norm 107 = .ok (.goto (-69), 3) := by decide +kernel
theorem d_Md_norm_110 : decode b_Md_norm 110 = .ok (.aload_n 0, 1) := by decide +kernel
theorem d_Md_norm_111 : decode b_Md_norm 111 = .ok (.getfield 409, 3) := by decide +kernel
theorem d_Md_norm_114 : decode b_Md_norm 114 = .ok (.ifCond .le 68, 3) := by decide +kernel
theorem d_Md_norm_182 : decode b_Md_norm 182 = .ok (.aload_n 0, 1) := by decide +kernel
theorem d_Md_norm_183 : decode b_Md_norm 183 = .ok (.getfield 409, 3) := by decide +kernel
theorem d_Md_norm_186 : decode b_Md_norm 186 = .ok (.ifCond .le 29, 3) := by decide +kernel
theorem d_Md_norm_215 : decode b_Md_norm 215 = .ok (.return_, 1) := by decide +kernel
theorem d_Md_same_0 : decode b_Md_same 0 = .ok (.aload_n 0, 1) := by decide +kernel
theorem d_Md_same_1 : decode b_Md_same 1 = .ok (.getfield 50, 3) := by decide +kernel
theorem d_Md_same_4 : decode b_Md_same 4 = .ok (.invokestatic 437, 3) := by decide +kernel
theorem d_Md_same_7 : decode b_Md_same 7 = .ok (.aload_n 0, 1) := by decide +kernel
theorem d_Md_same_8 : decode b_Md_same 8 = .ok (.getfield 54, 3) := by decide +kernel
theorem d_Md_same_11 : decode b_Md_same 11 = .ok (.invokestatic 437, 3) := by decide +kernel
theorem d_Md_same_14 : decode b_Md_same 14 = .ok (.aload_n 0, 1) := by decide +kernel
theorem d_Md_same_15 : decode b_Md_same 15 = .ok (.getfield 50, 3) := by decide +kernel
theorem d_Md_same_18 : decode b_Md_same 18 = .ok (.getfield 395, 3) := by decide +kernel
theorem d_Md_same_21 : decode b_Md_same 21 = .ok (.aload_n 0, 1) := by decide +kernel
theorem d_Md_same_22 : decode b_Md_same 22 = .ok (.getfield 54, 3) := by decide +kernel
theorem d_Md_same_25 : decode b_Md_same 25 = .ok (.getfield 395, 3) := by decide +kernel
theorem d_Md_same_28 : decode b_Md_same 28 = .ok (.if_icmp .ne 41, 3) := by decide +kernel
theorem d_Md_same_31 : decode b_Md_same 31 = .ok (.aload_n 0, 1) := by decide +kernel
theorem d_Md_same_32 : decode b_Md_same 32 = .ok (.getfield 50, 3) := by decide +kernel
theorem d_Md_same_35 : decode b_Md_same 35 = .ok (.getfield 406, 3) := by decide +kernel
theorem d_Md_same_38 : decode b_Md_same 38 = .ok (.aload_n 0, 1) := by decide +kernel
theorem d_Md_same_39 : decode b_Md_same 39 = .ok (.getfield 54, 3) := by decide +kernel
theorem d_Md_same_42 : decode b_Md_same 42 = .ok (.getfield 406, 3) := by decide +kernel
theorem d_Md_same_45 : decode b_Md_same 45 = .ok (.if_icmp .ne 24, 3) := by decide +kernel
theorem d_Md_same_48 : decode b_Md_same 48 = .ok (.aload_n 0, 1) := by decide +kernel
theorem d_Md_same_49 : decode b_Md_same 49 = .ok (.getfield 50, 3) := by decide +kernel
theorem d_Md_same_52 : decode b_Md_same 52 = .ok (.getfield 409, 3) := by decide +kernel
theorem d_Md_same_55 : decode b_Md_same 55 = .ok (.aload_n 0, 1) := by decide +kernel
theorem d_Md_same_56 : decode b_Md_same 56 = .ok (.getfield 54, 3) := by decide +kernel
theorem d_Md_same_59 : decode b_Md_same 59 = .ok (.getfield 409, 3) := by decide +kernel
theorem d_Md_same_62 : decode b_Md_same 62 = .ok (.if_icmp .ne 7, 3) := by decide +kernel
theorem d_Md_same_65 : decode b_Md_same 65 = .ok (.iconst 1, 1) := by decide +kernel
theorem d_Md_same_66 : decode b_Md_same 66 = .ok (.goto 4, 3) := by decide +kernel
theorem d_Md_same_70 : decode b_Md_same 70 = .ok (.istore_n 1, 1) := by decide +kernel
theorem d_Md_same_71 : decode b_Md_same 71 = .ok (.iconst 0, 1) := by decide +kernel
theorem d_Md_same_72 : decode b_Md_same 72 = .ok (.istore_n 2, 1) := by decide +kernel
theorem d_Md_same_73 : decode b_Md_same 73 = .ok (.iload_n 2, 1) := by decide +kernel
