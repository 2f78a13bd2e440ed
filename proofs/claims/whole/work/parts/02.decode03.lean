theorem d_En_printFaces_101 : decode b_En_printFaces 101 = .ok (.getfield 31, 3) := by decide +kernel
theorem d_En_printFaces_104 : decode b_En_printFaces 104 = .ok (.aload_n 1, 1) := by decide +kernel
theorem d_En_printFaces_105 : decode b_En_printFaces 105 = .ok (.iload_n 3, 1) := by decide +kernel
theorem d_En_printFaces_106 : decode b_En_printFaces 106 = .ok (.invokevirtual 345, 3) := by decide +kernel
theorem d_En_printFaces_109 : decode b_En_printFaces 109 = .ok (.i2l, 1) := by decide +kernel
theorem d_En_printFaces_110 : decode b_En_printFaces 110 = .ok (.invokevirtual 293, 3) := by decide +kernel
theorem d_En_printFaces_113 : decode b_En_printFaces 113 = .ok (.aload_n 1, 1) := by decide +kernel
theorem d_En_printFaces_114 : decode b_En_printFaces 114 = .ok (.iload_n 3, 1) := by decide +kernel
theorem d_En_printFaces_115 : decode b_En_printFaces 115 = .ok (.invokevirtual 348, 3) := by decide +kernel
theorem d_En_printFaces_118 : decode b_En_printFaces 118 = .ok (.istore_n 3, 1) := by decide +kernel
theorem d_En_printFaces_119 : decode b_En_printFaces 119 = .ok (.iinc 4 1, 3) := by decide +kernel
theorem d_En_printFaces_122 : decode b_En_printFaces 122 = .ok (.goto (-33), 3) := by decide +kernel
theorem d_En_printFaces_125 : decode b_En_printFaces 125 = .ok (.aload_n 0, 1) := by decide +kernel
theorem d_En_printFaces_126 : decode b_En_printFaces 126 = .ok (.getfield 31, 3) := by decide +kernel
theorem d_En_printFaces_129 : decode b_En_printFaces 129 = .ok (.invokevirtual 300, 3) := by decide +kernel
theorem d_En_printFaces_132 : decode b_En_printFaces 132 = .ok (.iinc 2 1, 3) := by decide +kernel
theorem d_En_printFaces_135 : decode b_En_printFaces 135 = .ok (.goto (-96), 3) := by decide +kernel
theorem d_En_printFaces_138 : decode b_En_printFaces 138 = .ok (.return_, 1) := by decide +kernel
theorem d_En_printUndone_0 : decode b_En_printUndone 0 = .ok (.aload_n 0, 1) := by decide +kernel
theorem d_En_printUndone_1 : decode b_En_printUndone 1 = .ok (.getfield 31, 3) := by decide +kernel
theorem d_En_printUndone_4 : decode b_En_printUndone 4 = .ok (.ldc_w 319, 3) := by decide +kernel
theorem d_En_printUndone_7 : decode b_En_printUndone 7 = .ok (.invokevirtual 290, 3) := by decide +kernel
theorem d_En_printUndone_10 : decode b_En_printUndone 10 = .ok (.aload_n 0, 1) := by decide +kernel
theorem d_En_printUndone_11 : decode b_En_printUndone 11 = .ok (.getfield 31, 3) := by decide +kernel
theorem d_En_printUndone_14 : decode b_En_printUndone 14 = .ok (.iload_n 1, 1) := by decide +kernel
theorem d_En_printUndone_15 : decode b_En_printUndone 15 = .ok (.i2l, 1) := by decide +kernel
theorem d_En_printUndone_16 : decode b_En_printUndone 16 = .ok (.invokevirtual 293, 3) := by decide +kernel
theorem d_En_printUndone_19 : decode b_En_printUndone 19 = .ok (.aload_n 0, 1) := by decide +kernel
theorem d_En_printUndone_20 : decode b_En_printUndone 20 = .ok (.getfield 31, 3) := by decide +kernel
theorem d_En_printUndone_23 : decode b_En_printUndone 23 = .ok (.invokevirtual 300, 3) := by decide +kernel
theorem d_En_printUndone_26 : decode b_En_printUndone 26 = .ok (.return_, 1) := by decide +kernel
theorem d_En_printed_0 : decode b_En_printed 0 = .ok (.iload_n 1, 1) := by decide +kernel
theorem d_En_printed_1 : decode b_En_printed 1 = .ok (.ifCond .lt 26, 3) := by decide +kernel
theorem d_En_printed_4 : decode b_En_printed 4 = .ok (.iload_n 1, 1) := by decide +kernel
theorem d_En_printed_5 : decode b_En_printed 5 = .ok (.aload_n 0, 1) := by decide +kernel
theorem d_En_printed_6 : decode b_En_printed 6 = .ok (.getfield 31, 3) := by decide +kernel
theorem d_En_printed_9 : decode b_En_printed 9 = .ok (.getfield 138, 3) := by decide +kernel
theorem d_En_printed_12 : decode b_En_printed 12 = .ok (.if_icmp .ge 15, 3) := by decide +kernel
theorem d_En_printed_15 : decode b_En_printed 15 = .ok (.aload_n 0, 1) := by decide +kernel
theorem d_En_printed_16 : decode b_En_printed 16 = .ok (.getfield 31, 3) := by decide +kernel
theorem d_En_printed_19 : decode b_En_printed 19 = .ok (.getfield 181, 3) := by decide +kernel
theorem d_En_printed_22 : decode b_En_printed 22 = .ok (.iload_n 1, 1) := by decide +kernel
theorem d_En_printed_23 : decode b_En_printed 23 = .ok (.iaload, 1) := by decide +kernel
theorem d_En_printed_24 : decode b_En_printed 24 = .ok (.goto 4, 3) := by decide +kernel
theorem d_En_printed_27 : decode b_En_printed 27 = .ok (.iconst (-1), 1) := by decide +kernel
theorem d_En_printed_28 : decode b_En_printed 28 = .ok (.ireturn, 1) := by decide +kernel
theorem d_En_putOnTape_0 : decode b_En_putOnTape 0 = .ok (.bipush 24, 2) := by decide +kernel
theorem d_En_putOnTape_2 : decode b_En_putOnTape 2 = .ok (.istore_n 2, 1) := by decide +kernel
theorem d_En_putOnTape_3 : decode b_En_putOnTape 3 = .ok (.iload_n 2, 1) := by decide +kernel
theorem d_En_putOnTape_4 : decode b_En_putOnTape 4 = .ok (.ifCond .lt 45, 3) := by decide +kernel
theorem d_En_putOnTape_7 : decode b_En_putOnTape 7 = .ok (.aload_n 0, 1) := by decide +kernel
theorem d_En_putOnTape_8 : decode b_En_putOnTape 8 = .ok (.getfield 89, 3) := by decide +kernel
theorem d_En_putOnTape_11 : decode b_En_putOnTape 11 = .ok (.sipush 4000, 3) := by decide +kernel
theorem d_En_putOnTape_14 : decode b_En_putOnTape 14 = .ok (.if_icmp .ge 35, 3) := by decide +kernel
theorem d_En_putOnTape_17 : decode b_En_putOnTape 17 = .ok (.aload_n 0, 1) := by decide +kernel
theorem d_En_putOnTape_18 : decode b_En_putOnTape 18 = .ok (.getfield 20, 3) := by decide +kernel
theorem d_En_putOnTape_21 : decode b_En_putOnTape 21 = .ok (.aload_n 0, 1) := by decide +kernel
theorem d_En_putOnTape_22 : decode b_En_putOnTape 22 = .ok (.getfield 89, 3) := by decide +kernel
theorem d_En_putOnTape_25 : decode b_En_putOnTape 25 = .ok (.iload_n 1, 1) := by decide +kernel
theorem d_En_putOnTape_26 : decode b_En_putOnTape 26 = .ok (.iload_n 2, 1) := by decide +kernel
theorem d_En_putOnTape_27 : decode b_En_putOnTape 27 = .ok (.iushr, 1) := by decide +kernel
theorem d_En_putOnTape_28 : decode b_En_putOnTape 28 = .ok (.sipush 255, 3) := by decide +kernel
theorem d_En_putOnTape_31 : decode b_En_putOnTape 31 = .ok (.iand, 1) := by decide +kernel
theorem d_En_putOnTape_32 : decode b_En_putOnTape 32 = .ok (.iastore, 1) := by decide +kernel
theorem d_En_putOnTape_33 : decode b_En_putOnTape 33 = .ok (.aload_n 0, 1) := by decide +kernel
theorem d_En_putOnTape_34 : decode b_En_putOnTape 34 = .ok (.dup, 1) := by decide +kernel
theorem d_En_putOnTape_35 : decode b_En_putOnTape 35 = .ok (.getfield 89, 3) := by decide +kernel
theorem d_En_putOnTape_38 : decode b_En_putOnTape 38 = .ok (.iconst 1, 1) := by decide +kernel
theorem d_En_putOnTape_39 : decode b_En_putOnTape 39 = .ok (.iadd, 1) := by decide +kernel
theorem d_En_putOnTape_40 : decode b_En_putOnTape 40 = .ok (.putfield 89, 3) := by decide +kernel
theorem d_En_putOnTape_43 : decode b_En_putOnTape 43 = .ok (.iinc 2 (-8), 3) := by decide +kernel
theorem d_En_putOnTape_46 : decode b_En_putOnTape 46 = .ok (.goto (-43), 3) := by decide +kernel
theorem d_En_putOnTape_49 : decode b_En_putOnTape 49 = .ok (.return_, 1) := by decide +kernel
theorem d_En_read_0 : decode b_En_read 0 = .ok (.iload_n 1, 1) := by decide +kernel
theorem d_En_read_1 : decode b_En_read 1 = .ok (.ifCond .lt 11, 3) := by decide +kernel
theorem d_En_read_4 : decode b_En_read 4 = .ok (.iload_n 1, 1) := by decide +kernel
theorem d_En_read_5 : decode b_En_read 5 = .ok (.aload_n 0, 1) := by decide +kernel
theorem d_En_read_6 : decode b_En_read 6 = .ok (.getfield 89, 3) := by decide +kernel
theorem d_En_read_9 : decode b_En_read 9 = .ok (.if_icmp .le 6, 3) := by decide +kernel
theorem d_En_read_12 : decode b_En_read 12 = .ok (.bipush (-2), 2) := by decide +kernel
theorem d_En_read_14 : decode b_En_read 14 = .ok (.ireturn, 1) := by decide +kernel
theorem d_En_read_15 : decode b_En_read 15 = .ok (.aload_n 0, 1) := by decide +kernel
theorem d_En_read_16 : decode b_En_read 16 = .ok (.iconst 0, 1) := by decide +kernel
theorem d_En_read_17 : decode b_En_read 17 = .ok (.putfield 89, 3) := by decide +kernel
theorem d_En_read_20 : decode b_En_read 20 = .ok (.aload_n 0, 1) := by decide +kernel
theorem d_En_read_21 : decode b_En_read 21 = .ok (.iconst 1, 1) := by decide +kernel
theorem d_En_read_22 : decode b_En_read 22 = .ok (.putfield 97, 3) := by decide +kernel
theorem d_En_read_25 : decode b_En_read 25 = .ok (.aload_n 0, 1) := by decide +kernel
theorem d_En_read_26 : decode b_En_read 26 = .ok (.getfield 12, 3) := by decide +kernel
theorem d_En_read_29 : decode b_En_read 29 = .ok (.iload_n 1, 1) := by decide +kernel
theorem d_En_read_30 : decode b_En_read 30 = .ok (.invokevirtual 101, 3) := by decide +kernel
theorem d_En_read_33 : decode b_En_read 33 = .ok (.iconst 0, 1) := by decide +kernel
theorem d_En_read_34 : decode b_En_read 34 = .ok (.istore_n 2, 1) := by decide +kernel
theorem d_En_read_35 : decode b_En_read 35 = .ok (.iload_n 2, 1) := by decide +kernel
theorem d_En_read_36 : decode b_En_read 36 = .ok (.iload_n 1, 1) := by decide +kernel
theorem d_En_read_37 : decode b_En_read 37 = .ok (.if_icmp .ge 43, 3) := by decide +kernel
theorem d_En_read_40 : decode b_En_read 40 = .ok (.aload_n 0, 1) := by decide +kernel
theorem d_En_read_41 : decode b_En_read 41 = .ok (.getfield 12, 3) := by decide +kernel
theorem d_En_read_44 : decode b_En_read 44 = .ok (.invokevirtual 104, 3) := by decide +kernel
theorem d_En_read_47 : decode b_En_read 47 = .ok (.ifCond .eq 33, 3) := by decide +kernel
theorem d_En_read_50 : decode b_En_read 50 = .ok (.aload_n 0, 1) := by decide +kernel
theorem d_En_read_51 : decode b_En_read 51 = .ok (.getfield 12, 3) := by decide +kernel
theorem d_En_read_54 : decode b_En_read 54 = .ok (.invokevirtual 108, 3) := by decide +kernel
theorem d_En_read_57 : decode b_En_read 57 = .ok (.ifCond .eq 17, 3) := by decide +kernel
theorem d_En_read_60 : decode b_En_read 60 = .ok (.aload_n 0, 1) := by decide +kernel
theorem d_En_read_61 : decode b_En_read 61 = .ok (.getfield 12, 3) := by decide +kernel
theorem d_En_read_64 : decode b_En_read 64 = .ok (.aload_n 0, 1) := by decide +kernel
theorem d_En_read_65 : decode b_En_read 65 = .ok (.getfield 27, 3) := by decide +kernel
theorem d_En_read_68 : decode b_En_read 68 = .ok (.invokevirtual 111, 3) := by decide +kernel
theorem d_En_read_71 : decode b_En_read 71 = .ok (.invokevirtual 117, 3) := by decide +kernel
theorem d_En_read_74 : decode b_En_read 74 = .ok (.iinc 2 1, 3) := by decide +kernel
theorem d_En_read_77 : decode b_En_read 77 = .ok (.goto (-42), 3) := by decide +kernel
theorem d_En_read_80 : decode b_En_read 80 = .ok (.aload_n 0, 1) := by decide +kernel
theorem d_En_read_81 : decode b_En_read 81 = .ok (.getfield 12, 3) := by decide +kernel
theorem d_En_read_84 : decode b_En_read 84 = .ok (.getfield 120, 3) := by decide +kernel
theorem d_En_read_87 : decode b_En_read 87 = .ok (.ifCond .eq 12, 3) := by decide +kernel
theorem d_En_read_90 : decode b_En_read 90 = .ok (.aload_n 0, 1) := by decide +kernel
theorem d_En_read_91 : decode b_En_read 91 = .ok (.getfield 27, 3) := by decide +kernel
theorem d_En_read_94 : decode b_En_read 94 = .ok (.invokevirtual 123, 3) := by decide +kernel
theorem d_En_read_97 : decode b_En_read 97 = .ok (.iconst (-1), 1) := by decide +kernel
theorem d_En_read_98 : decode b_En_read 98 = .ok (.ireturn, 1) := by decide +kernel
theorem d_En_read_99 : decode b_En_read 99 = .ok (.aload_n 0, 1) := by decide +kernel
theorem d_En_read_100 : decode b_En_read 100 = .ok (.getfield 27, 3) := by decide +kernel
theorem d_En_read_103 : decode b_En_read 103 = .ok (.invokevirtual 126, 3) := by decide +kernel
theorem d_En_read_106 : decode b_En_read 106 = .ok (.ireturn, 1) := by decide +kernel
theorem d_En_run_0 : decode b_En_run 0 = .ok (.iload_n 1, 1) := by decide +kernel
theorem d_En_run_1 : decode b_En_run 1 = .ok (.ifCond .lt 9, 3) := by decide +kernel
theorem d_En_run_4 : decode b_En_run 4 = .ok (.iload_n 1, 1) := by decide +kernel
theorem d_En_run_5 : decode b_En_run 5 = .ok (.bipush 16, 2) := by decide +kernel
theorem d_En_run_7 : decode b_En_run 7 = .ok (.if_icmp .le 5, 3) := by decide +kernel
theorem d_En_run_10 : decode b_En_run 10 = .ok (.iconst (-1), 1) := by decide +kernel
theorem d_En_run_11 : decode b_En_run 11 = .ok (.ireturn, 1) := by decide +kernel
theorem d_En_run_12 : decode b_En_run 12 = .ok (.iconst 0, 1) := by decide +kernel
theorem d_En_run_13 : decode b_En_run 13 = .ok (.istore_n 2, 1) := by decide +kernel
theorem d_En_run_14 : decode b_En_run 14 = .ok (.iload_n 2, 1) := by decide +kernel
theorem d_En_run_15 : decode b_En_run 15 = .ok (.iload_n 1, 1) := by decide +kernel
theorem d_En_run_16 : decode b_En_run 16 = .ok (.if_icmp .ge 86, 3) := by decide +kernel
theorem d_En_run_19 : decode b_En_run 19 = .ok (.aload_n 0, 1) := by decide +kernel
theorem d_En_run_20 : decode b_En_run 20 = .ok (.invokevirtual 132, 3) := by decide +kernel
theorem d_En_run_23 : decode b_En_run 23 = .ok (.ifCond .eq 79, 3) := by decide +kernel
theorem d_En_run_26 : decode b_En_run 26 = .ok (.aload_n 0, 1) := by decide +kernel
theorem d_En_run_27 : decode b_En_run 27 = .ok (.getfield 27, 3) := by decide +kernel
theorem d_En_run_30 : decode b_En_run 30 = .ok (.invokevirtual 135, 3) := by decide +kernel
theorem d_En_run_33 : decode b_En_run 33 = .ok (.istore_n 3, 1) := by decide +kernel
theorem d_En_run_34 : decode b_En_run 34 = .ok (.aload_n 0, 1) := by decide +kernel
theorem d_En_run_35 : decode b_En_run 35 = .ok (.getfield 31, 3) := by decide +kernel
theorem d_En_run_38 : decode b_En_run 38 = .ok (.getfield 138, 3) := by decide +kernel
theorem d_En_run_41 : decode b_En_run 41 = .ok (.istore 4, 2) := by decide +kernel
theorem d_En_run_43 : decode b_En_run 43 = .ok (.aload_n 0, 1) := by decide +kernel
theorem d_En_run_44 : decode b_En_run 44 = .ok (.iload_n 3, 1) := by decide +kernel
theorem d_En_run_45 : decode b_En_run 45 = .ok (.invokevirtual 141, 3) := by decide +kernel
theorem d_En_run_48 : decode b_En_run 48 = .ok (.istore 5, 2) := by decide +kernel
theorem d_En_run_50 : decode b_En_run 50 = .ok (.aload_n 0, 1) := by decide +kernel
theorem d_En_run_51 : decode b_En_run 51 = .ok (.getfield 31, 3) := by decide +kernel
theorem d_En_run_54 : decode b_En_run 54 = .ok (.getfield 145, 3) := by decide +kernel
theorem d_En_run_57 : decode b_En_run 57 = .ok (.ifCond .eq 15, 3) := by decide +kernel
theorem d_En_run_60 : decode b_En_run 60 = .ok (.aload_n 0, 1) := by decide +kernel
theorem d_En_run_61 : decode b_En_run 61 = .ok (.getfield 31, 3) := by decide +kernel
theorem d_En_run_64 : decode b_En_run 64 = .ok (.iload 4, 2) := by decide +kernel
theorem d_En_run_66 : decode b_En_run 66 = .ok (.invokevirtual 148, 3) := by decide +kernel
theorem d_En_run_69 : decode b_En_run 69 = .ok (.goto 33, 3) := by decide +kernel
theorem d_En_run_72 : decode b_En_run 72 = .ok (.iload 5, 2) := by decide +kernel
theorem d_En_run_74 : decode b_En_run 74 = .ok (.ifCond .eq 8, 3) := by decide +kernel
theorem d_En_run_77 : decode b_En_run 77 = .ok (.aload_n 0, 1) := by decide +kernel
theorem d_En_run_78 : decode b_En_run 78 = .ok (.iload_n 3, 1) := by decide +kernel
theorem d_En_run_79 : decode b_En_run 79 = .ok (.invokevirtual 151, 3) := by decide +kernel
theorem d_En_run_82 : decode b_En_run 82 = .ok (.aload_n 0, 1) := by decide +kernel
theorem d_En_run_83 : decode b_En_run 83 = .ok (.iload_n 3, 1) := by decide +kernel
theorem d_En_run_84 : decode b_En_run 84 = .ok (.invokevirtual 154, 3) := by decide +kernel
theorem d_En_run_87 : decode b_En_run 87 = .ok (.iinc 2 1, 3) := by decide +kernel
theorem d_En_run_90 : decode b_En_run 90 = .ok (.iload_n 3, 1) := by decide +kernel
theorem d_En_run_91 : decode b_En_run 91 = .ok (.bipush 16, 2) := by decide +kernel
theorem d_En_run_93 : decode b_En_run 93 = .ok (.if_icmp .lt 6, 3) := by decide +kernel
theorem d_En_run_96 : decode b_En_run 96 = .ok (.goto 6, 3) := by decide +kernel
theorem d_En_run_99 : decode b_En_run 99 = .ok (.goto (-85), 3) := by decide +kernel
theorem d_En_run_102 : decode b_En_run 102 = .ok (.iload_n 2, 1) := by decide +kernel
theorem d_En_run_103 : decode b_En_run 103 = .ok (.ireturn, 1) := by decide +kernel
theorem d_En_same_0 : decode b_En_same 0 = .ok (.aload_n 0, 1) := by decide +kernel
theorem d_En_same_1 : decode b_En_same 1 = .ok (.getfield 79, 3) := by decide +kernel
theorem d_En_same_4 : decode b_En_same 4 = .ok (.aload_n 0, 1) := by decide +kernel
theorem d_En_same_5 : decode b_En_same 5 = .ok (.getfield 83, 3) := by decide +kernel
theorem d_En_same_8 : decode b_En_same 8 = .ok (.invokevirtual 190, 3) := by decide +kernel
theorem d_En_same_11 : decode b_En_same 11 = .ok (.ireturn, 1) := by decide +kernel
theorem d_En_setBraid_0 : decode b_En_setBraid 0 = .ok (.aload_n 0, 1) := by decide +kernel
theorem d_En_setBraid_1 : decode b_En_setBraid 1 = .ok (.getfield 86, 3) := by decide +kernel
theorem d_En_setBraid_4 : decode b_En_setBraid 4 = .ok (.aload_n 0, 1) := by decide +kernel
theorem d_En_setBraid_5 : decode b_En_setBraid 5 = .ok (.getfield 27, 3) := by decide +kernel
theorem d_En_setBraid_8 : decode b_En_setBraid 8 = .ok (.invokevirtual 303, 3) := by decide +kernel
theorem d_En_setBraid_11 : decode b_En_setBraid 11 = .ok (.istore_n 1, 1) := by decide +kernel
theorem d_En_setBraid_12 : decode b_En_setBraid 12 = .ok (.iload_n 1, 1) := by decide +kernel
theorem d_En_setBraid_13 : decode b_En_setBraid 13 = .ok (.ifCond .eq 14, 3) := by decide +kernel
theorem d_En_setBraid_16 : decode b_En_setBraid 16 = .ok (.aload_n 0, 1) := by decide +kernel
theorem d_En_setBraid_17 : decode b_En_setBraid 17 = .ok (.getfield 86, 3) := by decide +kernel
theorem d_En_setBraid_20 : decode b_En_setBraid 20 = .ok (.aload_n 0, 1) := by decide +kernel
theorem d_En_setBraid_21 : decode b_En_setBraid 21 = .ok (.getfield 70, 3) := by decide +kernel
theorem d_En_setBraid_24 : decode b_En_setBraid 24 = .ok (.invokevirtual 306, 3) := by decide +kernel
theorem d_En_setBraid_27 : decode b_En_setBraid 27 = .ok (.aload_n 0, 1) := by decide +kernel
theorem d_En_setBraid_28 : decode b_En_setBraid 28 = .ok (.getfield 31, 3) := by decide +kernel
theorem d_En_setBraid_31 : decode b_En_setBraid 31 = .ok (.iload_n 1, 1) := by decide +kernel
theorem d_En_setBraid_32 : decode b_En_setBraid 32 = .ok (.ifCond .eq 8, 3) := by decide +kernel
