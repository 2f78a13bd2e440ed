theorem d_Rd_takeDigits_49 : decode b_Rd_takeDigits 49 = .ok (.aload_n 0, 1) := by decide +kernel
theorem d_Rd_takeDigits_50 : decode b_Rd_takeDigits 50 = .ok (.getfield 44, 3) := by decide +kernel
theorem d_Rd_takeDigits_53 : decode b_Rd_takeDigits 53 = .ok (.isub, 1) := by decide +kernel
theorem d_Rd_takeDigits_54 : decode b_Rd_takeDigits 54 = .ok (.bipush 18, 2) := by decide +kernel
theorem d_Rd_takeDigits_56 : decode b_Rd_takeDigits 56 = .ok (.if_icmp .ge 29, 3) := by decide +kernel
theorem d_Rd_takeDigits_59 : decode b_Rd_takeDigits 59 = .ok (.aload_n 0, 1) := by decide +kernel
theorem d_Rd_takeDigits_60 : decode b_Rd_takeDigits 60 = .ok (.ldc2_w 157, 3) := by decide +kernel
theorem d_Rd_takeDigits_63 : decode b_Rd_takeDigits 63 = .ok (.aload_n 0, 1) := by decide +kernel
theorem d_Rd_takeDigits_64 : decode b_Rd_takeDigits 64 = .ok (.getfield 117, 3) := by decide +kernel
theorem d_Rd_takeDigits_67 : decode b_Rd_takeDigits 67 = .ok (.lmul, 1) := by decide +kernel
theorem d_Rd_takeDigits_68 : decode b_Rd_takeDigits 68 = .ok (.aload_n 0, 1) := by decide +kernel
theorem d_Rd_takeDigits_69 : decode b_Rd_takeDigits 69 = .ok (.getfield 9, 3) := by decide +kernel
theorem d_Rd_takeDigits_72 : decode b_Rd_takeDigits 72 = .ok (.aload_n 0, 1) := by decide +kernel
theorem d_Rd_takeDigits_73 : decode b_Rd_takeDigits 73 = .ok (.getfield 29, 3) := by decide +kernel
theorem d_Rd_takeDigits_76 : decode b_Rd_takeDigits 76 = .ok (.iaload, 1) := by decide +kernel
theorem d_Rd_takeDigits_77 : decode b_Rd_takeDigits 77 = .ok (.bipush 48, 2) := by decide +kernel
theorem d_Rd_takeDigits_79 : decode b_Rd_takeDigits 79 = .ok (.isub, 1) := by decide +kernel
theorem d_Rd_takeDigits_80 : decode b_Rd_takeDigits 80 = .ok (.i2l, 1) := by decide +kernel
theorem d_Rd_takeDigits_81 : decode b_Rd_takeDigits 81 = .ok (.ladd, 1) := by decide +kernel
theorem d_Rd_takeDigits_82 : decode b_Rd_takeDigits 82 = .ok (.putfield 117, 3) := by decide +kernel
theorem d_Rd_takeDigits_85 : decode b_Rd_takeDigits 85 = .ok (.aload_n 0, 1) := by decide +kernel
theorem d_Rd_takeDigits_86 : decode b_Rd_takeDigits 86 = .ok (.dup, 1) := by decide +kernel
theorem d_Rd_takeDigits_87 : decode b_Rd_takeDigits 87 = .ok (.getfield 29, 3) := by decide +kernel
theorem d_Rd_takeDigits_90 : decode b_Rd_takeDigits 90 = .ok (.iconst 1, 1) := by decide +kernel
theorem d_Rd_takeDigits_91 : decode b_Rd_takeDigits 91 = .ok (.iadd, 1) := by decide +kernel
theorem d_Rd_takeDigits_92 : decode b_Rd_takeDigits 92 = .ok (.putfield 29, 3) := by decide +kernel
theorem d_Rd_takeDigits_95 : decode b_Rd_takeDigits 95 = .ok (.goto (-89), 3) := by decide +kernel
theorem d_Rd_takeDigits_98 : decode b_Rd_takeDigits 98 = .ok (.aload_n 0, 1) := by decide +kernel
theorem d_Rd_takeDigits_99 : decode b_Rd_takeDigits 99 = .ok (.getfield 29, 3) := by decide +kernel
theorem d_Rd_takeDigits_102 : decode b_Rd_takeDigits 102 = .ok (.aload_n 0, 1) := by decide +kernel
theorem d_Rd_takeDigits_103 : decode b_Rd_takeDigits 103 = .ok (.getfield 44, 3) := by decide +kernel
theorem d_Rd_takeDigits_106 : decode b_Rd_takeDigits 106 = .ok (.isub, 1) := by decide +kernel
theorem d_Rd_takeDigits_107 : decode b_Rd_takeDigits 107 = .ok (.istore_n 2, 1) := by decide +kernel
theorem d_Rd_takeDigits_108 : decode b_Rd_takeDigits 108 = .ok (.aload_n 0, 1) := by decide +kernel
theorem d_Rd_takeDigits_109 : decode b_Rd_takeDigits 109 = .ok (.iload_n 2, 1) := by decide +kernel
theorem d_Rd_takeDigits_110 : decode b_Rd_takeDigits 110 = .ok (.bipush 18, 2) := by decide +kernel
theorem d_Rd_takeDigits_112 : decode b_Rd_takeDigits 112 = .ok (.if_icmp .gt 12, 3) := by decide +kernel
theorem d_Rd_takeDigits_115 : decode b_Rd_takeDigits 115 = .ok (.iload_n 2, 1) := by decide +kernel
theorem d_Rd_takeDigits_116 : decode b_Rd_takeDigits 116 = .ok (.iconst 1, 1) := by decide +kernel
theorem d_Rd_takeDigits_117 : decode b_Rd_takeDigits 117 = .ok (.if_icmp .le 11, 3) := by decide +kernel
theorem d_Rd_takeDigits_120 : decode b_Rd_takeDigits 120 = .ok (.iload_n 1, 1) := by decide +kernel
theorem d_Rd_takeDigits_121 : decode b_Rd_takeDigits 121 = .ok (.ifCond .ne 7, 3) := by decide +kernel
theorem d_Rd_takeDigits_124 : decode b_Rd_takeDigits 124 = .ok (.iconst 1, 1) := by decide +kernel
theorem d_Rd_takeDigits_125 : decode b_Rd_takeDigits 125 = .ok (.goto 4, 3) := by decide +kernel
theorem d_Rd_takeDigits_128 : decode b_Rd_takeDigits 128 = .ok (.iconst 0, 1) := by decide +kernel
theorem d_Rd_takeDigits_129 : decode b_Rd_takeDigits 129 = .ok (.putfield 113, 3) := by decide +kernel
theorem d_Rd_takeDigits_132 : decode b_Rd_takeDigits 132 = .ok (.return_, 1) := by decide +kernel
theorem d_Sh_init_0 : decode b_Sh_init 0 = .ok (.aload_n 0, 1) := by decide +kernel
theorem d_Sh_init_1 : decode b_Sh_init 1 = .ok (.invokespecial 3, 3) := by decide +kernel
theorem d_Sh_init_4 : decode b_Sh_init 4 = .ok (.aload_n 0, 1) := by decide +kernel
theorem d_Sh_init_5 : decode b_Sh_init 5 = .ok (.bipush 80, 2) := by decide +kernel
theorem d_Sh_init_7 : decode b_Sh_init 7 = .ok (.newarray .int, 2) := by decide +kernel
theorem d_Sh_init_9 : decode b_Sh_init 9 = .ok (.putfield 9, 3) := by decide +kernel
theorem d_Sh_init_12 : decode b_Sh_init 12 = .ok (.aload_n 0, 1) := by decide +kernel
theorem d_Sh_init_13 : decode b_Sh_init 13 = .ok (.bipush 40, 2) := by decide +kernel
theorem d_Sh_init_15 : decode b_Sh_init 15 = .ok (.newarray .int, 2) := by decide +kernel
theorem d_Sh_init_17 : decode b_Sh_init 17 = .ok (.putfield 15, 3) := by decide +kernel
theorem d_Sh_init_20 : decode b_Sh_init 20 = .ok (.aload_n 0, 1) := by decide +kernel
theorem d_Sh_init_21 : decode b_Sh_init 21 = .ok (.bipush 40, 2) := by decide +kernel
theorem d_Sh_init_23 : decode b_Sh_init 23 = .ok (.newarray .int, 2) := by decide +kernel
theorem d_Sh_init_25 : decode b_Sh_init 25 = .ok (.putfield 18, 3) := by decide +kernel
theorem d_Sh_init_28 : decode b_Sh_init 28 = .ok (.aload_n 0, 1) := by decide +kernel
theorem d_Sh_init_29 : decode b_Sh_init 29 = .ok (.bipush 40, 2) := by decide +kernel
theorem d_Sh_init_31 : decode b_Sh_init 31 = .ok (.newarray .int, 2) := by decide +kernel
theorem d_Sh_init_33 : decode b_Sh_init 33 = .ok (.putfield 21, 3) := by decide +kernel
theorem d_Sh_init_36 : decode b_Sh_init 36 = .ok (.aload_n 0, 1) := by decide +kernel
theorem d_Sh_init_37 : decode b_Sh_init 37 = .ok (.bipush 80, 2) := by decide +kernel
theorem d_Sh_init_39 : decode b_Sh_init 39 = .ok (.newarray .int, 2) := by decide +kernel
theorem d_Sh_init_41 : decode b_Sh_init 41 = .ok (.putfield 24, 3) := by decide +kernel
theorem d_Sh_init_44 : decode b_Sh_init 44 = .ok (.aload_n 0, 1) := by decide +kernel
theorem d_Sh_init_45 : decode b_Sh_init 45 = .ok (.bipush 40, 2) := by decide +kernel
theorem d_Sh_init_47 : decode b_Sh_init 47 = .ok (.newarray .int, 2) := by decide +kernel
theorem d_Sh_init_49 : decode b_Sh_init 49 = .ok (.putfield 27, 3) := by decide +kernel
theorem d_Sh_init_52 : decode b_Sh_init 52 = .ok (.aload_n 0, 1) := by decide +kernel
theorem d_Sh_init_53 : decode b_Sh_init 53 = .ok (.bipush 40, 2) := by decide +kernel
theorem d_Sh_init_55 : decode b_Sh_init 55 = .ok (.newarray .int, 2) := by decide +kernel
theorem d_Sh_init_57 : decode b_Sh_init 57 = .ok (.putfield 30, 3) := by decide +kernel
theorem d_Sh_init_60 : decode b_Sh_init 60 = .ok (.aload_n 0, 1) := by decide +kernel
theorem d_Sh_init_61 : decode b_Sh_init 61 = .ok (.bipush 20, 2) := by decide +kernel
theorem d_Sh_init_63 : decode b_Sh_init 63 = .ok (.newarray .int, 2) := by decide +kernel
theorem d_Sh_init_65 : decode b_Sh_init 65 = .ok (.putfield 33, 3) := by decide +kernel
theorem d_Sh_init_68 : decode b_Sh_init 68 = .ok (.aload_n 0, 1) := by decide +kernel
theorem d_Sh_init_69 : decode b_Sh_init 69 = .ok (.bipush 80, 2) := by decide +kernel
theorem d_Sh_init_71 : decode b_Sh_init 71 = .ok (.newarray .int, 2) := by decide +kernel
theorem d_Sh_init_73 : decode b_Sh_init 73 = .ok (.putfield 36, 3) := by decide +kernel
theorem d_Sh_init_76 : decode b_Sh_init 76 = .ok (.aload_n 0, 1) := by decide +kernel
theorem d_Sh_init_77 : decode b_Sh_init 77 = .ok (.bipush 80, 2) := by decide +kernel
theorem d_Sh_init_79 : decode b_Sh_init 79 = .ok (.newarray .int, 2) := by decide +kernel
theorem d_Sh_init_81 : decode b_Sh_init 81 = .ok (.putfield 39, 3) := by decide +kernel
theorem d_Sh_init_84 : decode b_Sh_init 84 = .ok (.aload_n 0, 1) := by decide +kernel
theorem d_Sh_init_85 : decode b_Sh_init 85 = .ok (.bipush 80, 2) := by decide +kernel
theorem d_Sh_init_87 : decode b_Sh_init 87 = .ok (.newarray .int, 2) := by decide +kernel
theorem d_Sh_init_89 : decode b_Sh_init 89 = .ok (.putfield 42, 3) := by decide +kernel
theorem d_Sh_init_92 : decode b_Sh_init 92 = .ok (.aload_n 0, 1) := by decide +kernel
theorem d_Sh_init_93 : decode b_Sh_init 93 = .ok (.bipush 80, 2) := by decide +kernel
theorem d_Sh_init_95 : decode b_Sh_init 95 = .ok (.newarray .int, 2) := by decide +kernel
theorem d_Sh_init_97 : decode b_Sh_init 97 = .ok (.putfield 45, 3) := by decide +kernel
theorem d_Sh_init_100 : decode b_Sh_init 100 = .ok (.return_, 1) := by decide +kernel
theorem d_Sh_arrival_0 : decode b_Sh_arrival 0 = .ok (.iload_n 1, 1) := by decide +kernel
theorem d_Sh_arrival_1 : decode b_Sh_arrival 1 = .ok (.iconst 1, 1) := by decide +kernel
theorem d_Sh_arrival_2 : decode b_Sh_arrival 2 = .ok (.iand, 1) := by decide +kernel
theorem d_Sh_arrival_3 : decode b_Sh_arrival 3 = .ok (.ifCond .ne 14, 3) := by decide +kernel
theorem d_Sh_arrival_6 : decode b_Sh_arrival 6 = .ok (.aload_n 0, 1) := by decide +kernel
theorem d_Sh_arrival_7 : decode b_Sh_arrival 7 = .ok (.getfield 21, 3) := by decide +kernel
theorem d_Sh_arrival_10 : decode b_Sh_arrival 10 = .ok (.iload_n 1, 1) := by decide +kernel
theorem d_Sh_arrival_11 : decode b_Sh_arrival 11 = .ok (.iconst 1, 1) := by decide +kernel
theorem d_Sh_arrival_12 : decode b_Sh_arrival 12 = .ok (.ishr, 1) := by decide +kernel
theorem d_Sh_arrival_13 : decode b_Sh_arrival 13 = .ok (.iaload, 1) := by decide +kernel
theorem d_Sh_arrival_14 : decode b_Sh_arrival 14 = .ok (.goto 11, 3) := by decide +kernel
theorem d_Sh_arrival_17 : decode b_Sh_arrival 17 = .ok (.aload_n 0, 1) := by decide +kernel
theorem d_Sh_arrival_18 : decode b_Sh_arrival 18 = .ok (.getfield 18, 3) := by decide +kernel
theorem d_Sh_arrival_21 : decode b_Sh_arrival 21 = .ok (.iload_n 1, 1) := by decide +kernel
theorem d_Sh_arrival_22 : decode b_Sh_arrival 22 = .ok (.iconst 1, 1) := by decide +kernel
theorem d_Sh_arrival_23 : decode b_Sh_arrival 23 = .ok (.ishr, 1) := by decide +kernel
theorem d_Sh_arrival_24 : decode b_Sh_arrival 24 = .ok (.iaload, 1) := by decide +kernel
theorem d_Sh_arrival_25 : decode b_Sh_arrival 25 = .ok (.ireturn, 1) := by decide +kernel
theorem d_Sh_breaks_0 : decode b_Sh_breaks 0 = .ok (.aload_n 0, 1) := by decide +kernel
theorem d_Sh_breaks_1 : decode b_Sh_breaks 1 = .ok (.iload_n 1, 1) := by decide +kernel
theorem d_Sh_breaks_2 : decode b_Sh_breaks 2 = .ok (.putfield 61, 3) := by decide +kernel
theorem d_Sh_breaks_5 : decode b_Sh_breaks 5 = .ok (.aload_n 0, 1) := by decide +kernel
theorem d_Sh_breaks_6 : decode b_Sh_breaks 6 = .ok (.iload_n 2, 1) := by decide +kernel
theorem d_Sh_breaks_7 : decode b_Sh_breaks 7 = .ok (.putfield 64, 3) := by decide +kernel
theorem d_Sh_breaks_10 : decode b_Sh_breaks 10 = .ok (.iconst 0, 1) := by decide +kernel
theorem d_Sh_breaks_11 : decode b_Sh_breaks 11 = .ok (.ireturn, 1) := by decide +kernel
theorem d_Sh_checkSpheres_0 : decode b_Sh_checkSpheres 0 = .ok (.aload_n 0, 1) := by decide +kernel
theorem d_Sh_checkSpheres_1 : decode b_Sh_checkSpheres 1 = .ok (.getfield 45, 3) := by decide +kernel
theorem d_Sh_checkSpheres_4 : decode b_Sh_checkSpheres 4 = .ok (.bipush (-2), 2) := by decide +kernel
theorem d_Sh_checkSpheres_6 : decode b_Sh_checkSpheres 6 = .ok (.invokestatic 96, 3) := by decide +kernel
theorem d_Sh_checkSpheres_9 : decode b_Sh_checkSpheres 9 = .ok (.iconst 0, 1) := by decide +kernel
theorem d_Sh_checkSpheres_10 : decode b_Sh_checkSpheres 10 = .ok (.istore_n 2, 1) := by decide +kernel
theorem d_Sh_checkSpheres_11 : decode b_Sh_checkSpheres 11 = .ok (.iload_n 2, 1) := by decide +kernel
theorem d_Sh_checkSpheres_12 : decode b_Sh_checkSpheres 12 = .ok (.aload_n 0, 1) := by decide +kernel
theorem d_Sh_checkSpheres_13 : decode b_Sh_checkSpheres 13 = .ok (.getfield 58, 3) := by decide +kernel
theorem d_Sh_checkSpheres_16 : decode b_Sh_checkSpheres 16 = .ok (.if_icmp .ge 30, 3) := by decide +kernel
theorem d_Sh_checkSpheres_19 : decode b_Sh_checkSpheres 19 = .ok (.aload_n 0, 1) := by decide +kernel
theorem d_Sh_checkSpheres_20 : decode b_Sh_checkSpheres 20 = .ok (.getfield 45, 3) := by decide +kernel
theorem d_Sh_checkSpheres_23 : decode b_Sh_checkSpheres 23 = .ok (.aload_n 0, 1) := by decide +kernel
theorem d_Sh_checkSpheres_24 : decode b_Sh_checkSpheres 24 = .ok (.aload_n 0, 1) := by decide +kernel
theorem d_Sh_checkSpheres_25 : decode b_Sh_checkSpheres 25 = .ok (.getfield 39, 3) := by decide +kernel
theorem d_Sh_checkSpheres_28 : decode b_Sh_checkSpheres 28 = .ok (.iload_n 2, 1) := by decide +kernel
theorem d_Sh_checkSpheres_29 : decode b_Sh_checkSpheres 29 = .ok (.iaload, 1) := by decide +kernel
theorem d_Sh_checkSpheres_30 : decode b_Sh_checkSpheres 30 = .ok (.iconst 1, 1) := by decide +kernel
theorem d_Sh_checkSpheres_31 : decode b_Sh_checkSpheres 31 = .ok (.ishr, 1) := by decide +kernel
theorem d_Sh_checkSpheres_32 : decode b_Sh_checkSpheres 32 = .ok (.invokevirtual 108, 3) := by decide +kernel
theorem d_Sh_checkSpheres_35 : decode b_Sh_checkSpheres 35 = .ok (.dup2, 1) := by decide +kernel
theorem d_Sh_checkSpheres_36 : decode b_Sh_checkSpheres 36 = .ok (.iaload, 1) := by decide +kernel
theorem d_Sh_checkSpheres_37 : decode b_Sh_checkSpheres 37 = .ok (.iconst 1, 1) := by decide +kernel
theorem d_Sh_checkSpheres_38 : decode b_Sh_checkSpheres 38 = .ok (.iadd, 1) := by decide +kernel
theorem d_Sh_checkSpheres_39 : decode b_Sh_checkSpheres 39 = .ok (.iastore, 1) := by decide +kernel
theorem d_Sh_checkSpheres_40 : decode b_Sh_checkSpheres 40 = .ok (.iinc 2 1, 3) := by decide +kernel
theorem d_Sh_checkSpheres_43 : decode b_Sh_checkSpheres 43 = .ok (.goto (-32), 3) := by decide +kernel
theorem d_Sh_checkSpheres_46 : decode b_Sh_checkSpheres 46 = .ok (.iconst 0, 1) := by decide +kernel
theorem d_Sh_checkSpheres_47 : decode b_Sh_checkSpheres 47 = .ok (.istore_n 2, 1) := by decide +kernel
theorem d_Sh_checkSpheres_48 : decode b_Sh_checkSpheres 48 = .ok (.iload_n 2, 1) := by decide +kernel
theorem d_Sh_checkSpheres_49 : decode b_Sh_checkSpheres 49 = .ok (.iload_n 1, 1) := by decide +kernel
theorem d_Sh_checkSpheres_50 : decode b_Sh_checkSpheres 50 = .ok (.if_icmp .ge 24, 3) := by decide +kernel
theorem d_Sh_checkSpheres_53 : decode b_Sh_checkSpheres 53 = .ok (.aload_n 0, 1) := by decide +kernel
theorem d_Sh_checkSpheres_54 : decode b_Sh_checkSpheres 54 = .ok (.getfield 45, 3) := by decide +kernel
theorem d_Sh_checkSpheres_57 : decode b_Sh_checkSpheres 57 = .ok (.aload_n 0, 1) := by decide +kernel
theorem d_Sh_checkSpheres_58 : decode b_Sh_checkSpheres 58 = .ok (.getfield 33, 3) := by decide +kernel
theorem d_Sh_checkSpheres_61 : decode b_Sh_checkSpheres 61 = .ok (.iload_n 2, 1) := by decide +kernel
theorem d_Sh_checkSpheres_62 : decode b_Sh_checkSpheres 62 = .ok (.iaload, 1) := by decide +kernel
theorem d_Sh_checkSpheres_63 : decode b_Sh_checkSpheres 63 = .ok (.dup2, 1) := by decide +kernel
theorem d_Sh_checkSpheres_64 : decode b_Sh_checkSpheres 64 = .ok (.iaload, 1) := by decide +kernel
theorem d_Sh_checkSpheres_65 : decode b_Sh_checkSpheres 65 = .ok (.iconst 1, 1) := by decide +kernel
theorem d_Sh_checkSpheres_66 : decode b_Sh_checkSpheres 66 = .ok (.isub, 1) := by decide +kernel
theorem d_Sh_checkSpheres_67 : decode b_Sh_checkSpheres 67 = .ok (.iastore, 1) := by decide +kernel
theorem d_Sh_checkSpheres_68 : decode b_Sh_checkSpheres 68 = .ok (.iinc 2 1, 3) := by decide +kernel
theorem d_Sh_checkSpheres_71 : decode b_Sh_checkSpheres 71 = .ok (.goto (-23), 3) := by decide +kernel
theorem d_Sh_checkSpheres_74 : decode b_Sh_checkSpheres 74 = .ok (.iconst 0, 1) := by decide +kernel
theorem d_Sh_checkSpheres_75 : decode b_Sh_checkSpheres 75 = .ok (.istore_n 2, 1) := by decide +kernel
theorem d_Sh_checkSpheres_76 : decode b_Sh_checkSpheres 76 = .ok (.iload_n 2, 1) := by decide +kernel
theorem d_Sh_checkSpheres_77 : decode b_Sh_checkSpheres 77 = .ok (.iload_n 1, 1) := by decide +kernel
theorem d_Sh_checkSpheres_78 : decode b_Sh_checkSpheres 78 = .ok (.if_icmp .ge 37, 3) := by decide +kernel
theorem d_Sh_checkSpheres_81 : decode b_Sh_checkSpheres 81 = .ok (.aload_n 0, 1) := by decide +kernel
theorem d_Sh_checkSpheres_82 : decode b_Sh_checkSpheres 82 = .ok (.getfield 61, 3) := by decide +kernel
theorem d_Sh_checkSpheres_85 : decode b_Sh_checkSpheres 85 = .ok (.ifCond .ne 30, 3) := by decide +kernel
theorem d_Sh_checkSpheres_88 : decode b_Sh_checkSpheres 88 = .ok (.aload_n 0, 1) := by decide +kernel
theorem d_Sh_checkSpheres_89 : decode b_Sh_checkSpheres 89 = .ok (.getfield 45, 3) := by decide +kernel
theorem d_Sh_checkSpheres_92 : decode b_Sh_checkSpheres 92 = .ok (.aload_n 0, 1) := by decide +kernel
theorem d_Sh_checkSpheres_93 : decode b_Sh_checkSpheres 93 = .ok (.getfield 33, 3) := by decide +kernel
theorem d_Sh_checkSpheres_96 : decode b_Sh_checkSpheres 96 = .ok (.iload_n 2, 1) := by decide +kernel
theorem d_Sh_checkSpheres_97 : decode b_Sh_checkSpheres 97 = .ok (.iaload, 1) := by decide +kernel
theorem d_Sh_checkSpheres_98 : decode b_Sh_checkSpheres 98 = .ok (.iaload, 1) := by decide +kernel
theorem d_Sh_checkSpheres_99 : decode b_Sh_checkSpheres 99 = .ok (.ifCond .eq 10, 3) := by decide +kernel
theorem d_Sh_checkSpheres_102 : decode b_Sh_checkSpheres 102 = .ok (.aload_n 0, 1) := by decide +kernel
theorem d_Sh_checkSpheres_103 : decode b_Sh_checkSpheres 103 = .ok (.iconst 3, 1) := by decide +kernel
theorem d_Sh_checkSpheres_104 : decode b_Sh_checkSpheres 104 = .ok (.iload_n 2, 1) := by decide +kernel
theorem d_Sh_checkSpheres_105 : decode b_Sh_checkSpheres 105 = .ok (.invokevirtual 79, 3) := by decide +kernel
theorem d_Sh_checkSpheres_108 : decode b_Sh_checkSpheres 108 = .ok (.pop, 1) := by decide +kernel
theorem d_Sh_checkSpheres_109 : decode b_Sh_checkSpheres 109 = .ok (.iinc 2 1, 3) := by decide +kernel
theorem d_Sh_checkSpheres_112 : decode b_Sh_checkSpheres 112 = .ok (.goto (-36), 3) := by decide +kernel
theorem d_Sh_checkSpheres_115 : decode b_Sh_checkSpheres 115 = .ok (.return_, 1) := by decide +kernel
theorem d_Sh_clear_0 : decode b_Sh_clear 0 = .ok (.aload_n 0, 1) := by decide +kernel
theorem d_Sh_clear_1 : decode b_Sh_clear 1 = .ok (.iconst 0, 1) := by decide +kernel
theorem d_Sh_clear_2 : decode b_Sh_clear 2 = .ok (.putfield 48, 3) := by decide +kernel
theorem d_Sh_clear_5 : decode b_Sh_clear 5 = .ok (.aload_n 0, 1) := by decide +kernel
theorem d_Sh_clear_6 : decode b_Sh_clear 6 = .ok (.iconst 0, 1) := by decide +kernel
theorem d_Sh_clear_7 : decode b_Sh_clear 7 = .ok (.putfield 52, 3) := by decide +kernel
theorem d_Sh_clear_10 : decode b_Sh_clear 10 = .ok (.aload_n 0, 1) := by decide +kernel
