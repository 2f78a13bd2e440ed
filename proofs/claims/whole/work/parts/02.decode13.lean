theorem d_Li_longNumber_28 : decode b_Li_longNumber 28 = .ok (.getfield 15, 3) := by decide +kernel
theorem d_Li_longNumber_31 : decode b_Li_longNumber 31 = .ok (.aload_n 0, 1) := by decide +kernel
theorem d_Li_longNumber_32 : decode b_Li_longNumber 32 = .ok (.getfield 26, 3) := by decide +kernel
theorem d_Li_longNumber_35 : decode b_Li_longNumber 35 = .ok (.iaload, 1) := by decide +kernel
theorem d_Li_longNumber_36 : decode b_Li_longNumber 36 = .ok (.isub, 1) := by decide +kernel
theorem d_Li_longNumber_37 : decode b_Li_longNumber 37 = .ok (.if_icmp .lt 5, 3) := by decide +kernel
theorem d_Li_longNumber_40 : decode b_Li_longNumber 40 = .ok (.lconst 0, 1) := by decide +kernel
theorem d_Li_longNumber_41 : decode b_Li_longNumber 41 = .ok (.lreturn, 1) := by decide +kernel
theorem d_Li_longNumber_42 : decode b_Li_longNumber 42 = .ok (.aload_n 0, 1) := by decide +kernel
theorem d_Li_longNumber_43 : decode b_Li_longNumber 43 = .ok (.getfield 18, 3) := by decide +kernel
theorem d_Li_longNumber_46 : decode b_Li_longNumber 46 = .ok (.aload_n 0, 1) := by decide +kernel
theorem d_Li_longNumber_47 : decode b_Li_longNumber 47 = .ok (.getfield 15, 3) := by decide +kernel
theorem d_Li_longNumber_50 : decode b_Li_longNumber 50 = .ok (.aload_n 0, 1) := by decide +kernel
theorem d_Li_longNumber_51 : decode b_Li_longNumber 51 = .ok (.getfield 26, 3) := by decide +kernel
theorem d_Li_longNumber_54 : decode b_Li_longNumber 54 = .ok (.iaload, 1) := by decide +kernel
theorem d_Li_longNumber_55 : decode b_Li_longNumber 55 = .ok (.iload_n 1, 1) := by decide +kernel
theorem d_Li_longNumber_56 : decode b_Li_longNumber 56 = .ok (.iadd, 1) := by decide +kernel
theorem d_Li_longNumber_57 : decode b_Li_longNumber 57 = .ok (.laload, 1) := by decide +kernel
theorem d_Li_longNumber_58 : decode b_Li_longNumber 58 = .ok (.lreturn, 1) := by decide +kernel
theorem d_Li_number_0 : decode b_Li_number 0 = .ok (.aload_n 0, 1) := by decide +kernel
theorem d_Li_number_1 : decode b_Li_number 1 = .ok (.iload_n 1, 1) := by decide +kernel
theorem d_Li_number_2 : decode b_Li_number 2 = .ok (.invokevirtual 29, 3) := by decide +kernel
theorem d_Li_number_5 : decode b_Li_number 5 = .ok (.l2i, 1) := by decide +kernel
theorem d_Li_number_6 : decode b_Li_number 6 = .ok (.ireturn, 1) := by decide +kernel
theorem d_Li_numbers_0 : decode b_Li_numbers 0 = .ok (.aload_n 0, 1) := by decide +kernel
theorem d_Li_numbers_1 : decode b_Li_numbers 1 = .ok (.getfield 26, 3) := by decide +kernel
theorem d_Li_numbers_4 : decode b_Li_numbers 4 = .ok (.aload_n 0, 1) := by decide +kernel
theorem d_Li_numbers_5 : decode b_Li_numbers 5 = .ok (.getfield 22, 3) := by decide +kernel
theorem d_Li_numbers_8 : decode b_Li_numbers 8 = .ok (.if_icmp .ge 27, 3) := by decide +kernel
theorem d_Li_numbers_11 : decode b_Li_numbers 11 = .ok (.aload_n 0, 1) := by decide +kernel
theorem d_Li_numbers_12 : decode b_Li_numbers 12 = .ok (.getfield 15, 3) := by decide +kernel
theorem d_Li_numbers_15 : decode b_Li_numbers 15 = .ok (.aload_n 0, 1) := by decide +kernel
theorem d_Li_numbers_16 : decode b_Li_numbers 16 = .ok (.getfield 26, 3) := by decide +kernel
theorem d_Li_numbers_19 : decode b_Li_numbers 19 = .ok (.iconst 1, 1) := by decide +kernel
theorem d_Li_numbers_20 : decode b_Li_numbers 20 = .ok (.iadd, 1) := by decide +kernel
theorem d_Li_numbers_21 : decode b_Li_numbers 21 = .ok (.iaload, 1) := by decide +kernel
theorem d_Li_numbers_22 : decode b_Li_numbers 22 = .ok (.aload_n 0, 1) := by decide +kernel
theorem d_Li_numbers_23 : decode b_Li_numbers 23 = .ok (.getfield 15, 3) := by decide +kernel
theorem d_Li_numbers_26 : decode b_Li_numbers 26 = .ok (.aload_n 0, 1) := by decide +kernel
theorem d_Li_numbers_27 : decode b_Li_numbers 27 = .ok (.getfield 26, 3) := by decide +kernel
theorem d_Li_numbers_30 : decode b_Li_numbers 30 = .ok (.iaload, 1) := by decide +kernel
theorem d_Li_numbers_31 : decode b_Li_numbers 31 = .ok (.isub, 1) := by decide +kernel
theorem d_Li_numbers_32 : decode b_Li_numbers 32 = .ok (.goto 4, 3) := by decide +kernel
theorem d_Li_numbers_35 : decode b_Li_numbers 35 = .ok (.iconst 0, 1) := by decide +kernel
theorem d_Li_numbers_36 : decode b_Li_numbers 36 = .ok (.ireturn, 1) := by decide +kernel
theorem d_Li_open_0 : decode b_Li_open 0 = .ok (.aload_n 0, 1) := by decide +kernel
theorem d_Li_open_1 : decode b_Li_open 1 = .ok (.getfield 22, 3) := by decide +kernel
theorem d_Li_open_4 : decode b_Li_open 4 = .ok (.bipush 64, 2) := by decide +kernel
theorem d_Li_open_6 : decode b_Li_open 6 = .ok (.if_icmp .ge 43, 3) := by decide +kernel
theorem d_Li_open_9 : decode b_Li_open 9 = .ok (.aload_n 0, 1) := by decide +kernel
theorem d_Li_open_10 : decode b_Li_open 10 = .ok (.getfield 9, 3) := by decide +kernel
theorem d_Li_open_13 : decode b_Li_open 13 = .ok (.aload_n 0, 1) := by decide +kernel
theorem d_Li_open_14 : decode b_Li_open 14 = .ok (.getfield 22, 3) := by decide +kernel
theorem d_Li_open_17 : decode b_Li_open 17 = .ok (.iload_n 1, 1) := by decide +kernel
theorem d_Li_open_18 : decode b_Li_open 18 = .ok (.iastore, 1) := by decide +kernel
theorem d_Li_open_19 : decode b_Li_open 19 = .ok (.aload_n 0, 1) := by decide +kernel
theorem d_Li_open_20 : decode b_Li_open 20 = .ok (.getfield 15, 3) := by decide +kernel
theorem d_Li_open_23 : decode b_Li_open 23 = .ok (.aload_n 0, 1) := by decide +kernel
theorem d_Li_open_24 : decode b_Li_open 24 = .ok (.getfield 22, 3) := by decide +kernel
theorem d_Li_open_27 : decode b_Li_open 27 = .ok (.iconst 1, 1) := by decide +kernel
theorem d_Li_open_28 : decode b_Li_open 28 = .ok (.iadd, 1) := by decide +kernel
theorem d_Li_open_29 : decode b_Li_open 29 = .ok (.aload_n 0, 1) := by decide +kernel
theorem d_Li_open_30 : decode b_Li_open 30 = .ok (.getfield 15, 3) := by decide +kernel
theorem d_Li_open_33 : decode b_Li_open 33 = .ok (.aload_n 0, 1) := by decide +kernel
theorem d_Li_open_34 : decode b_Li_open 34 = .ok (.getfield 22, 3) := by decide +kernel
theorem d_Li_open_37 : decode b_Li_open 37 = .ok (.iaload, 1) := by decide +kernel
theorem d_Li_open_38 : decode b_Li_open 38 = .ok (.iastore, 1) := by decide +kernel
theorem d_Li_open_39 : decode b_Li_open 39 = .ok (.aload_n 0, 1) := by decide +kernel
theorem d_Li_open_40 : decode b_Li_open 40 = .ok (.dup, 1) := by decide +kernel
theorem d_Li_open_41 : decode b_Li_open 41 = .ok (.getfield 22, 3) := by decide +kernel
theorem d_Li_open_44 : decode b_Li_open 44 = .ok (.iconst 1, 1) := by decide +kernel
theorem d_Li_open_45 : decode b_Li_open 45 = .ok (.iadd, 1) := by decide +kernel
theorem d_Li_open_46 : decode b_Li_open 46 = .ok (.putfield 22, 3) := by decide +kernel
theorem d_Li_open_49 : decode b_Li_open 49 = .ok (.return_, 1) := by decide +kernel
theorem d_Li_waiting_0 : decode b_Li_waiting 0 = .ok (.aload_n 0, 1) := by decide +kernel
theorem d_Li_waiting_1 : decode b_Li_waiting 1 = .ok (.getfield 22, 3) := by decide +kernel
theorem d_Li_waiting_4 : decode b_Li_waiting 4 = .ok (.aload_n 0, 1) := by decide +kernel
theorem d_Li_waiting_5 : decode b_Li_waiting 5 = .ok (.getfield 26, 3) := by decide +kernel
theorem d_Li_waiting_8 : decode b_Li_waiting 8 = .ok (.isub, 1) := by decide +kernel
theorem d_Li_waiting_9 : decode b_Li_waiting 9 = .ok (.ireturn, 1) := by decide +kernel
theorem d_Mi_init_0 : decode b_Mi_init 0 = .ok (.aload_n 0, 1) := by decide +kernel
theorem d_Mi_init_1 : decode b_Mi_init 1 = .ok (.invokespecial 5, 3) := by decide +kernel
theorem d_Mi_init_4 : decode b_Mi_init 4 = .ok (.aload_n 0, 1) := by decide +kernel
theorem d_Mi_init_5 : decode b_Mi_init 5 = .ok (.sipush 5120, 3) := by decide +kernel
theorem d_Mi_init_8 : decode b_Mi_init 8 = .ok (.newarray .int, 2) := by decide +kernel
theorem d_Mi_init_10 : decode b_Mi_init 10 = .ok (.putfield 11, 3) := by decide +kernel
theorem d_Mi_init_13 : decode b_Mi_init 13 = .ok (.aload_n 0, 1) := by decide +kernel
theorem d_Mi_init_14 : decode b_Mi_init 14 = .ok (.sipush 512, 3) := by decide +kernel
theorem d_Mi_init_17 : decode b_Mi_init 17 = .ok (.newarray .int, 2) := by decide +kernel
theorem d_Mi_init_19 : decode b_Mi_init 19 = .ok (.putfield 15, 3) := by decide +kernel
theorem d_Mi_init_22 : decode b_Mi_init 22 = .ok (.return_, 1) := by decide +kernel
theorem d_Mi_addColumn_0 : decode b_Mi_addColumn 0 = .ok (.iload_n 3, 1) := by decide +kernel
theorem d_Mi_addColumn_1 : decode b_Mi_addColumn 1 = .ok (.aload_n 0, 1) := by decide +kernel
theorem d_Mi_addColumn_2 : decode b_Mi_addColumn 2 = .ok (.getfield 35, 3) := by decide +kernel
theorem d_Mi_addColumn_5 : decode b_Mi_addColumn 5 = .ok (.if_icmp .ge 12, 3) := by decide +kernel
theorem d_Mi_addColumn_8 : decode b_Mi_addColumn 8 = .ok (.iload_n 1, 1) := by decide +kernel
theorem d_Mi_addColumn_9 : decode b_Mi_addColumn 9 = .ok (.iload_n 3, 1) := by decide +kernel
theorem d_Mi_addColumn_10 : decode b_Mi_addColumn 10 = .ok (.ishr, 1) := by decide +kernel
theorem d_Mi_addColumn_11 : decode b_Mi_addColumn 11 = .ok (.iconst 1, 1) := by decide +kernel
theorem d_Mi_addColumn_12 : decode b_Mi_addColumn 12 = .ok (.iand, 1) := by decide +kernel
theorem d_Mi_addColumn_13 : decode b_Mi_addColumn 13 = .ok (.iconst 1, 1) := by decide +kernel
theorem d_Mi_addColumn_14 : decode b_Mi_addColumn 14 = .ok (.if_icmp .ne 4, 3) := by decide +kernel
theorem d_Mi_addColumn_17 : decode b_Mi_addColumn 17 = .ok (.return_, 1) := by decide +kernel
theorem d_Mi_addColumn_18 : decode b_Mi_addColumn 18 = .ok (.iload_n 1, 1) := by decide +kernel
theorem d_Mi_addColumn_19 : decode b_Mi_addColumn 19 = .ok (.iconst 1, 1) := by decide +kernel
theorem d_Mi_addColumn_20 : decode b_Mi_addColumn 20 = .ok (.iload_n 3, 1) := by decide +kernel
theorem d_Mi_addColumn_21 : decode b_Mi_addColumn 21 = .ok (.ishl, 1) := by decide +kernel
theorem d_Mi_addColumn_22 : decode b_Mi_addColumn 22 = .ok (.ior, 1) := by decide +kernel
theorem d_Mi_addColumn_23 : decode b_Mi_addColumn 23 = .ok (.istore 6, 2) := by decide +kernel
theorem d_Mi_addColumn_25 : decode b_Mi_addColumn 25 = .ok (.aload_n 0, 1) := by decide +kernel
theorem d_Mi_addColumn_26 : decode b_Mi_addColumn 26 = .ok (.iload 6, 2) := by decide +kernel
theorem d_Mi_addColumn_28 : decode b_Mi_addColumn 28 = .ok (.invokevirtual 64, 3) := by decide +kernel
theorem d_Mi_addColumn_31 : decode b_Mi_addColumn 31 = .ok (.iload_n 1, 1) := by decide +kernel
theorem d_Mi_addColumn_32 : decode b_Mi_addColumn 32 = .ok (.iload_n 3, 1) := by decide +kernel
theorem d_Mi_addColumn_33 : decode b_Mi_addColumn 33 = .ok (.ishr, 1) := by decide +kernel
theorem d_Mi_addColumn_34 : decode b_Mi_addColumn 34 = .ok (.invokestatic 68, 3) := by decide +kernel
theorem d_Mi_addColumn_37 : decode b_Mi_addColumn 37 = .ok (.iconst 1, 1) := by decide +kernel
theorem d_Mi_addColumn_38 : decode b_Mi_addColumn 38 = .ok (.iand, 1) := by decide +kernel
theorem d_Mi_addColumn_39 : decode b_Mi_addColumn 39 = .ok (.iconst 1, 1) := by decide +kernel
theorem d_Mi_addColumn_40 : decode b_Mi_addColumn 40 = .ok (.if_icmp .ne 7, 3) := by decide +kernel
theorem d_Mi_addColumn_43 : decode b_Mi_addColumn 43 = .ok (.iconst (-1), 1) := by decide +kernel
theorem d_Mi_addColumn_44 : decode b_Mi_addColumn 44 = .ok (.goto 4, 3) := by decide +kernel
theorem d_Mi_addColumn_47 : decode b_Mi_addColumn 47 = .ok (.iconst 1, 1) := by decide +kernel
theorem d_Mi_addColumn_48 : decode b_Mi_addColumn 48 = .ok (.istore 7, 2) := by decide +kernel
theorem d_Mi_addColumn_50 : decode b_Mi_addColumn 50 = .ok (.iload_n 1, 1) := by decide +kernel
theorem d_Mi_addColumn_51 : decode b_Mi_addColumn 51 = .ok (.bipush 10, 2) := by decide +kernel
theorem d_Mi_addColumn_53 : decode b_Mi_addColumn 53 = .ok (.imul, 1) := by decide +kernel
theorem d_Mi_addColumn_54 : decode b_Mi_addColumn 54 = .ok (.istore 8, 2) := by decide +kernel
theorem d_Mi_addColumn_56 : decode b_Mi_addColumn 56 = .ok (.iload 6, 2) := by decide +kernel
theorem d_Mi_addColumn_58 : decode b_Mi_addColumn 58 = .ok (.bipush 10, 2) := by decide +kernel
theorem d_Mi_addColumn_60 : decode b_Mi_addColumn 60 = .ok (.imul, 1) := by decide +kernel
theorem d_Mi_addColumn_61 : decode b_Mi_addColumn 61 = .ok (.istore 9, 2) := by decide +kernel
theorem d_Mi_addColumn_63 : decode b_Mi_addColumn 63 = .ok (.iconst 0, 1) := by decide +kernel
theorem d_Mi_addColumn_64 : decode b_Mi_addColumn 64 = .ok (.istore 10, 2) := by decide +kernel
theorem d_Mi_addColumn_66 : decode b_Mi_addColumn 66 = .ok (.iload 10, 2) := by decide +kernel
theorem d_Mi_addColumn_68 : decode b_Mi_addColumn 68 = .ok (.iload_n 2, 1) := by decide +kernel
theorem d_Mi_addColumn_69 : decode b_Mi_addColumn 69 = .ok (.if_icmp .gt 62, 3) := by decide +kernel
theorem d_Mi_addColumn_72 : decode b_Mi_addColumn 72 = .ok (.iload 7, 2) := by decide +kernel
theorem d_Mi_addColumn_74 : decode b_Mi_addColumn 74 = .ok (.aload_n 0, 1) := by decide +kernel
theorem d_Mi_addColumn_75 : decode b_Mi_addColumn 75 = .ok (.getfield 11, 3) := by decide +kernel
theorem d_Mi_addColumn_78 : decode b_Mi_addColumn 78 = .ok (.iload 8, 2) := by decide +kernel
theorem d_Mi_addColumn_80 : decode b_Mi_addColumn 80 = .ok (.iload 10, 2) := by decide +kernel
theorem d_Mi_addColumn_82 : decode b_Mi_addColumn 82 = .ok (.iadd, 1) := by decide +kernel
theorem d_Mi_addColumn_83 : decode b_Mi_addColumn 83 = .ok (.iaload, 1) := by decide +kernel
theorem d_Mi_addColumn_84 : decode b_Mi_addColumn 84 = .ok (.imul, 1) := by decide +kernel
theorem d_Mi_addColumn_85 : decode b_Mi_addColumn 85 = .ok (.istore 11, 2) := by decide +kernel
theorem d_Mi_addColumn_87 : decode b_Mi_addColumn 87 = .ok (.aload_n 0, 1) := by decide +kernel
theorem d_Mi_addColumn_88 : decode b_Mi_addColumn 88 = .ok (.getfield 11, 3) := by decide +kernel
theorem d_Mi_addColumn_91 : decode b_Mi_addColumn 91 = .ok (.iload 9, 2) := by decide +kernel
theorem d_Mi_addColumn_93 : decode b_Mi_addColumn 93 = .ok (.iload 10, 2) := by decide +kernel
theorem d_Mi_addColumn_95 : decode b_Mi_addColumn 95 = .ok (.iadd, 1) := by decide +kernel
theorem d_Mi_addColumn_96 : decode b_Mi_addColumn 96 = .ok (.dup2, 1) := by decide +kernel
theorem d_Mi_addColumn_97 : decode b_Mi_addColumn 97 = .ok (.iaload, 1) := by decide +kernel
theorem d_Mi_addColumn_98 : decode b_Mi_addColumn 98 = .ok (.iload 4, 2) := by decide +kernel
theorem d_Mi_addColumn_100 : decode b_Mi_addColumn 100 = .ok (.iload 11, 2) := by decide +kernel
theorem d_Mi_addColumn_102 : decode b_Mi_addColumn 102 = .ok (.imul, 1) := by decide +kernel
theorem d_Mi_addColumn_103 : decode b_Mi_addColumn 103 = .ok (.iadd, 1) := by decide +kernel
theorem d_Mi_addColumn_104 : decode b_Mi_addColumn 104 = .ok (.iastore, 1) := by decide +kernel
theorem d_Mi_addColumn_105 : decode b_Mi_addColumn 105 = .ok (.aload_n 0, 1) := by decide +kernel
theorem d_Mi_addColumn_106 : decode b_Mi_addColumn 106 = .ok (.getfield 11, 3) := by decide +kernel
theorem d_Mi_addColumn_109 : decode b_Mi_addColumn 109 = .ok (.iload 9, 2) := by decide +kernel
theorem d_Mi_addColumn_111 : decode b_Mi_addColumn 111 = .ok (.iload 10, 2) := by decide +kernel
theorem d_Mi_addColumn_113 : decode b_Mi_addColumn 113 = .ok (.iadd, 1) := by decide +kernel
theorem d_Mi_addColumn_114 : decode b_Mi_addColumn 114 = .ok (.iconst 1, 1) := by decide +kernel
theorem d_Mi_addColumn_115 : decode b_Mi_addColumn 115 = .ok (.iadd, 1) := by decide +kernel
theorem d_Mi_addColumn_116 : decode b_Mi_addColumn 116 = .ok (.dup2, 1) := by decide +kernel
theorem d_Mi_addColumn_117 : decode b_Mi_addColumn 117 = .ok (.iaload, 1) := by decide +kernel
theorem d_Mi_addColumn_118 : decode b_Mi_addColumn 118 = .ok (.iload 5, 2) := by decide +kernel
theorem d_Mi_addColumn_120 : decode b_Mi_addColumn 120 = .ok (.iload 11, 2) := by decide +kernel
theorem d_Mi_addColumn_122 : decode b_Mi_addColumn 122 = .ok (.imul, 1) := by decide +kernel
theorem d_Mi_addColumn_123 : decode b_Mi_addColumn 123 = .ok (.iadd, 1) := by decide +kernel
theorem d_Mi_addColumn_124 : decode b_Mi_addColumn 124 = .ok (.iastore, 1) := by decide +kernel
theorem d_Mi_addColumn_125 : decode b_Mi_addColumn 125 = .ok (.iinc 10 1, 3) := by decide +kernel
theorem d_Mi_addColumn_128 : decode b_Mi_addColumn 128 = .ok (.goto (-62), 3) := by decide +kernel
theorem d_Mi_addColumn_131 : decode b_Mi_addColumn 131 = .ok (.return_, 1) := by decide +kernel
theorem d_Mi_alexander_0 : decode b_Mi_alexander 0 = .ok (.aload_n 3, 1) := by decide +kernel
theorem d_Mi_alexander_1 : decode b_Mi_alexander 1 = .ok (.invokevirtual 18, 3) := by decide +kernel
theorem d_Mi_alexander_4 : decode b_Mi_alexander 4 = .ok (.aload_n 0, 1) := by decide +kernel
theorem d_Mi_alexander_5 : decode b_Mi_alexander 5 = .ok (.aload_n 2, 1) := by decide +kernel
theorem d_Mi_alexander_6 : decode b_Mi_alexander 6 = .ok (.invokevirtual 23, 3) := by decide +kernel
theorem d_Mi_alexander_9 : decode b_Mi_alexander 9 = .ok (.aload_n 1, 1) := by decide +kernel
theorem d_Mi_alexander_10 : decode b_Mi_alexander 10 = .ok (.getfield 29, 3) := by decide +kernel
theorem d_Mi_alexander_13 : decode b_Mi_alexander 13 = .ok (.iadd, 1) := by decide +kernel
theorem d_Mi_alexander_14 : decode b_Mi_alexander 14 = .ok (.iconst 1, 1) := by decide +kernel
theorem d_Mi_alexander_15 : decode b_Mi_alexander 15 = .ok (.isub, 1) := by decide +kernel
theorem d_Mi_alexander_16 : decode b_Mi_alexander 16 = .ok (.putfield 35, 3) := by decide +kernel
theorem d_Mi_alexander_19 : decode b_Mi_alexander 19 = .ok (.aload_n 0, 1) := by decide +kernel
theorem d_Mi_alexander_20 : decode b_Mi_alexander 20 = .ok (.getfield 35, 3) := by decide +kernel
theorem d_Mi_alexander_23 : decode b_Mi_alexander 23 = .ok (.ifCond .lt 29, 3) := by decide +kernel
theorem d_Mi_alexander_26 : decode b_Mi_alexander 26 = .ok (.aload_n 0, 1) := by decide +kernel
theorem d_Mi_alexander_27 : decode b_Mi_alexander 27 = .ok (.getfield 35, 3) := by decide +kernel
theorem d_Mi_alexander_30 : decode b_Mi_alexander 30 = .ok (.iconst 0, 1) := by decide +kernel
theorem d_Mi_alexander_31 : decode b_Mi_alexander 31 = .ok (.aload_n 1, 1) := by decide +kernel
theorem d_Mi_alexander_32 : decode b_Mi_alexander 32 = .ok (.getfield 38, 3) := by decide +kernel
theorem d_Mi_alexander_35 : decode b_Mi_alexander 35 = .ok (.iconst 1, 1) := by decide +kernel
theorem d_Mi_alexander_36 : decode b_Mi_alexander 36 = .ok (.isub, 1) := by decide +kernel
theorem d_Mi_alexander_37 : decode b_Mi_alexander 37 = .ok (.invokestatic 41, 3) := by decide +kernel
theorem d_Mi_alexander_40 : decode b_Mi_alexander 40 = .ok (.if_icmp .gt 12, 3) := by decide +kernel
theorem d_Mi_alexander_43 : decode b_Mi_alexander 43 = .ok (.aload_n 0, 1) := by decide +kernel
theorem d_Mi_alexander_44 : decode b_Mi_alexander 44 = .ok (.getfield 35, 3) := by decide +kernel
