theorem d_Md_findPieces_168 : decode b_Md_findPieces 168 = .ok (.getfield 90, 3) := by decide +kernel
theorem d_Md_findPieces_171 : decode b_Md_findPieces 171 = .ok (.iload_n 1, 1) := by decide +kernel
theorem d_Md_findPieces_172 : decode b_Md_findPieces 172 = .ok (.iaload, 1) := by decide +kernel
theorem d_Md_findPieces_173 : decode b_Md_findPieces 173 = .ok (.iload_n 1, 1) := by decide +kernel
theorem d_Md_findPieces_174 : decode b_Md_findPieces 174 = .ok (.if_icmp .ne 7, 3) := by decide +kernel
theorem d_Md_findPieces_181 : decode b_Md_findPieces 181 = .ok (.iconst 0, 1) := by decide +kernel
theorem d_Md_findPieces_177 : decode b_Md_findPieces 177 = .ok (.iconst 1, 1) := by decide +kernel
theorem d_Md_findPieces_178 : decode b_Md_findPieces 178 = .ok (.goto 4, 3) := by decide +kernel
theorem d_Md_findPieces_131 : decode b_Md_findPieces 131 = .ok (.iastore, 1) := by decide +kernel
theorem d_Md_findPieces_132 : decode b_Md_findPieces 132 = .ok (.iinc 5 1, 3) := by decide +kernel
theorem d_Md_findPieces_135 : decode b_Md_findPieces 135 = .ok (.goto (-56), 3) := by decide +kernel
theorem d_Md_findPieces_119 : decode b_Md_findPieces 119 = .ok (.iload 4, 2) := by decide +kernel
theorem d_Md_findPieces_121 : decode b_Md_findPieces 121 = .ok (.goto 10, 3) := by decide +kernel
theorem d_Md_findPieces_79 : decode b_Md_findPieces 79 = .ok (.iload 5, 2) := by decide +kernel
theorem d_Md_findPieces_81 : decode b_Md_findPieces 81 = .ok (.aload_n 0, 1) := by decide +kernel
theorem d_Md_findPieces_82 : decode b_Md_findPieces 82 = .ok (.getfield 37, 3) := by decide +kernel
theorem d_Md_findPieces_85 : decode b_Md_findPieces 85 = .ok (.getfield 312, 3) := by decide +kernel
theorem d_Md_findPieces_88 : decode b_Md_findPieces 88 = .ok (.if_icmp .ge 50, 3) := by decide +kernel
theorem d_Md_findPieces_138 : decode b_Md_findPieces 138 = .ok (.iinc 1 1, 3) := by decide +kernel
theorem d_Md_findPieces_141 : decode b_Md_findPieces 141 = .ok (.goto (-113), 3) := by decide +kernel
theorem d_Md_findPieces_91 : decode b_Md_findPieces 91 = .ok (.aload_n 0, 1) := by decide +kernel
theorem d_Md_findPieces_92 : decode b_Md_findPieces 92 = .ok (.getfield 90, 3) := by decide +kernel
theorem d_Md_findPieces_95 : decode b_Md_findPieces 95 = .ok (.iload 5, 2) := by decide +kernel
theorem d_Md_findPieces_97 : decode b_Md_findPieces 97 = .ok (.aload_n 0, 1) := by decide +kernel
theorem d_Md_findPieces_98 : decode b_Md_findPieces 98 = .ok (.getfield 90, 3) := by decide +kernel
theorem d_Md_findPieces_101 : decode b_Md_findPieces 101 = .ok (.iload 5, 2) := by decide +kernel
theorem d_Md_findPieces_103 : decode b_Md_findPieces 103 = .ok (.iaload, 1) := by decide +kernel
theorem d_Md_findPieces_104 : decode b_Md_findPieces 104 = .ok (.iload_n 2, 1) := by decide +kernel
theorem d_Md_findPieces_105 : decode b_Md_findPieces 105 = .ok (.if_icmp .eq 14, 3) := by decide +kernel
theorem d_Md_findPieces_108 : decode b_Md_findPieces 108 = .ok (.aload_n 0, 1) := by decide +kernel
theorem d_Md_findPieces_109 : decode b_Md_findPieces 109 = .ok (.getfield 90, 3) := by decide +kernel
theorem d_Md_findPieces_112 : decode b_Md_findPieces 112 = .ok (.iload 5, 2) := by decide +kernel
theorem d_Md_findPieces_114 : decode b_Md_findPieces 114 = .ok (.iaload, 1) := by decide +kernel
theorem d_Md_findPieces_115 : decode b_Md_findPieces 115 = .ok (.iload_n 3, 1) := by decide +kernel
theorem d_Md_findPieces_116 : decode b_Md_findPieces 116 = .ok (.if_icmp .ne 8, 3) := by decide +kernel
theorem d_Md_findPieces_124 : decode b_Md_findPieces 124 = .ok (.aload_n 0, 1) := by decide +kernel
theorem d_Md_findPieces_125 : decode b_Md_findPieces 125 = .ok (.getfield 90, 3) := by decide +kernel
theorem d_Md_findPieces_128 : decode b_Md_findPieces 128 = .ok (.iload 5, 2) := by decide +kernel
theorem d_Md_findPieces_130 : decode b_Md_findPieces 130 = .ok (.iaload, 1) := by decide +kernel
theorem d_Md_findPieces_74 : decode b_Md_findPieces 74 = .ok (.istore 4, 2) := by decide +kernel
theorem d_Md_findPieces_76 : decode b_Md_findPieces 76 = .ok (.iconst 0, 1) := by decide +kernel
theorem d_Md_findPieces_77 : decode b_Md_findPieces 77 = .ok (.istore 5, 2) := by decide +kernel
theorem d_Md_findPieces_36 : decode b_Md_findPieces 36 = .ok (.aload_n 0, 1) := by decide +kernel
theorem d_Md_findPieces_37 : decode b_Md_findPieces 37 = .ok (.getfield 90, 3) := by decide +kernel
theorem d_Md_findPieces_40 : decode b_Md_findPieces 40 = .ok (.aload_n 0, 1) := by decide +kernel
theorem d_Md_findPieces_41 : decode b_Md_findPieces 41 = .ok (.getfield 69, 3) := by decide +kernel
theorem d_Md_findPieces_44 : decode b_Md_findPieces 44 = .ok (.iload_n 1, 1) := by decide +kernel
theorem d_Md_findPieces_45 : decode b_Md_findPieces 45 = .ok (.iaload, 1) := by decide +kernel
theorem d_Md_findPieces_46 : decode b_Md_findPieces 46 = .ok (.iconst 2, 1) := by decide +kernel
theorem d_Md_findPieces_47 : decode b_Md_findPieces 47 = .ok (.ishr, 1) := by decide +kernel
theorem d_Md_findPieces_48 : decode b_Md_findPieces 48 = .ok (.iaload, 1) := by decide +kernel
theorem d_Md_findPieces_49 : decode b_Md_findPieces 49 = .ok (.istore_n 2, 1) := by decide +kernel
theorem d_Md_findPieces_50 : decode b_Md_findPieces 50 = .ok (.aload_n 0, 1) := by decide +kernel
theorem d_Md_findPieces_51 : decode b_Md_findPieces 51 = .ok (.getfield 90, 3) := by decide +kernel
theorem d_Md_findPieces_54 : decode b_Md_findPieces 54 = .ok (.aload_n 0, 1) := by decide +kernel
theorem d_Md_findPieces_55 : decode b_Md_findPieces 55 = .ok (.getfield 72, 3) := by decide +kernel
theorem d_Md_findPieces_58 : decode b_Md_findPieces 58 = .ok (.iload_n 1, 1) := by decide +kernel
theorem d_Md_findPieces_59 : decode b_Md_findPieces 59 = .ok (.iaload, 1) := by decide +kernel
theorem d_Md_findPieces_60 : decode b_Md_findPieces 60 = .ok (.iconst 2, 1) := by decide +kernel
theorem d_Md_findPieces_61 : decode b_Md_findPieces 61 = .ok (.ishr, 1) := by decide +kernel
theorem d_Md_findPieces_62 : decode b_Md_findPieces 62 = .ok (.iaload, 1) := by decide +kernel
theorem d_Md_findPieces_63 : decode b_Md_findPieces 63 = .ok (.istore_n 3, 1) := by decide +kernel
theorem d_Md_findPieces_64 : decode b_Md_findPieces 64 = .ok (.iload_n 2, 1) := by decide +kernel
theorem d_Md_findPieces_65 : decode b_Md_findPieces 65 = .ok (.iload_n 3, 1) := by decide +kernel
theorem d_Md_findPieces_66 : decode b_Md_findPieces 66 = .ok (.if_icmp .ge 7, 3) := by decide +kernel
theorem d_Md_findPieces_73 : decode b_Md_findPieces 73 = .ok (.iload_n 3, 1) := by decide +kernel
theorem d_Md_findPieces_69 : decode b_Md_findPieces 69 = .ok (.iload_n 2, 1) := by decide +kernel
theorem d_Md_findPieces_70 : decode b_Md_findPieces 70 = .ok (.goto 4, 3) := by decide +kernel
theorem d_Md_findPieces_13 : decode b_Md_findPieces 13 = .ok (.aload_n 0, 1) := by decide +kernel
theorem d_Md_findPieces_14 : decode b_Md_findPieces 14 = .ok (.getfield 90, 3) := by decide +kernel
theorem d_Md_findPieces_17 : decode b_Md_findPieces 17 = .ok (.iload_n 1, 1) := by decide +kernel
theorem d_Md_findPieces_18 : decode b_Md_findPieces 18 = .ok (.iload_n 1, 1) := by decide +kernel
theorem d_Md_findPieces_19 : decode b_Md_findPieces 19 = .ok (.iastore, 1) := by decide +kernel
theorem d_Md_findPieces_20 : decode b_Md_findPieces 20 = .ok (.iinc 1 1, 3) := by decide +kernel
theorem d_Md_findPieces_23 : decode b_Md_findPieces 23 = .ok (.goto (-21), 3) := by decide +kernel
theorem d_Md_many_0 : decode b_Md_many 0 = .ok (.aload_n 0, 1) := by decide +kernel
theorem d_Md_many_1 : decode b_Md_many 1 = .ok (.getfield 27, 3) := by decide +kernel
theorem d_Md_many_4 : decode b_Md_many 4 = .ok (.aload_n 0, 1) := by decide +kernel
theorem d_Md_many_5 : decode b_Md_many 5 = .ok (.getfield 290, 3) := by decide +kernel
theorem d_Md_many_8 : decode b_Md_many 8 = .ok (.iconst 1, 1) := by decide +kernel
theorem d_Md_many_9 : decode b_Md_many 9 = .ok (.iadd, 1) := by decide +kernel
theorem d_Md_many_10 : decode b_Md_many 10 = .ok (.iaload, 1) := by decide +kernel
theorem d_Md_many_11 : decode b_Md_many 11 = .ok (.aload_n 0, 1) := by decide +kernel
theorem d_Md_many_12 : decode b_Md_many 12 = .ok (.getfield 27, 3) := by decide +kernel
theorem d_Md_many_15 : decode b_Md_many 15 = .ok (.aload_n 0, 1) := by decide +kernel
theorem d_Md_many_16 : decode b_Md_many 16 = .ok (.getfield 290, 3) := by decide +kernel
theorem d_Md_many_19 : decode b_Md_many 19 = .ok (.iaload, 1) := by decide +kernel
theorem d_Md_many_20 : decode b_Md_many 20 = .ok (.isub, 1) := by decide +kernel
theorem d_Md_many_21 : decode b_Md_many 21 = .ok (.ireturn, 1) := by decide +kernel
theorem d_Md_given_0 : decode b_Md_given 0 = .ok (.aload_n 0, 1) := by decide +kernel
theorem d_Md_given_1 : decode b_Md_given 1 = .ok (.getfield 30, 3) := by decide +kernel
theorem d_Md_given_4 : decode b_Md_given 4 = .ok (.aload_n 0, 1) := by decide +kernel
theorem d_Md_given_5 : decode b_Md_given 5 = .ok (.getfield 27, 3) := by decide +kernel
theorem d_Md_given_8 : decode b_Md_given 8 = .ok (.aload_n 0, 1) := by decide +kernel
theorem d_Md_given_9 : decode b_Md_given 9 = .ok (.getfield 290, 3) := by decide +kernel
theorem d_Md_given_12 : decode b_Md_given 12 = .ok (.iaload, 1) := by decide +kernel
theorem d_Md_given_13 : decode b_Md_given 13 = .ok (.iload_n 1, 1) := by decide +kernel
theorem d_Md_given_14 : decode b_Md_given 14 = .ok (.iadd, 1) := by decide +kernel
theorem d_Md_given_15 : decode b_Md_given 15 = .ok (.laload, 1) := by decide +kernel
theorem d_Md_given_16 : decode b_Md_given 16 = .ok (.l2i, 1) := by decide +kernel
theorem d_Md_given_17 : decode b_Md_given 17 = .ok (.ireturn, 1) := by decide +kernel
theorem d_Md_say_0 : decode b_Md_say 0 = .ok (.aload_n 0, 1) := by decide +kernel
theorem d_Md_say_1 : decode b_Md_say 1 = .ok (.getfield 63, 3) := by decide +kernel
theorem d_Md_say_4 : decode b_Md_say 4 = .ok (.aload_n 0, 1) := by decide +kernel
theorem d_Md_say_5 : decode b_Md_say 5 = .ok (.getfield 506, 3) := by decide +kernel
theorem d_Md_say_8 : decode b_Md_say 8 = .ok (.iload_n 1, 1) := by decide +kernel
theorem d_Md_say_9 : decode b_Md_say 9 = .ok (.i2b, 1) := by decide +kernel
theorem d_Md_say_10 : decode b_Md_say 10 = .ok (.bastore, 1) := by decide +kernel
theorem d_Md_say_11 : decode b_Md_say 11 = .ok (.aload_n 0, 1) := by decide +kernel
theorem d_Md_say_12 : decode b_Md_say 12 = .ok (.dup, 1) := by decide +kernel
theorem d_Md_say_13 : decode b_Md_say 13 = .ok (.getfield 506, 3) := by decide +kernel
theorem d_Md_say_16 : decode b_Md_say 16 = .ok (.iconst 1, 1) := by decide +kernel
theorem d_Md_say_17 : decode b_Md_say 17 = .ok (.iadd, 1) := by decide +kernel
theorem d_Md_say_18 : decode b_Md_say 18 = .ok (.putfield 506, 3) := by decide +kernel
theorem d_Md_say_21 : decode b_Md_say 21 = .ok (.return_, 1) := by decide +kernel
theorem d_Md_places_36 : decode b_Md_places 36 = .ok (.iadd, 1) := by decide +kernel
theorem d_Md_places_37 : decode b_Md_places 37 = .ok (.istore_n 2, 1) := by decide +kernel
theorem d_Md_places_38 : decode b_Md_places 38 = .ok (.iinc 3 1, 3) := by decide +kernel
theorem d_Md_places_41 : decode b_Md_places 41 = .ok (.goto (-37), 3) := by decide +kernel
theorem d_Md_places_4 : decode b_Md_places 4 = .ok (.iload_n 3, 1) := by decide +kernel
theorem d_Md_places_5 : decode b_Md_places 5 = .ok (.iconst 4, 1) := by decide +kernel
theorem d_Md_places_6 : decode b_Md_places 6 = .ok (.aload_n 0, 1) := by decide +kernel
theorem d_Md_places_7 : decode b_Md_places 7 = .ok (.getfield 37, 3) := by decide +kernel
theorem d_Md_places_10 : decode b_Md_places 10 = .ok (.getfield 312, 3) := by decide +kernel
theorem d_Md_places_13 : decode b_Md_places 13 = .ok (.imul, 1) := by decide +kernel
theorem d_Md_places_14 : decode b_Md_places 14 = .ok (.if_icmp .ge 30, 3) := by decide +kernel
theorem d_Md_places_44 : decode b_Md_places 44 = .ok (.iload_n 2, 1) := by decide +kernel
theorem d_Md_places_45 : decode b_Md_places 45 = .ok (.ireturn, 1) := by decide +kernel
theorem d_Md_places_17 : decode b_Md_places 17 = .ok (.iload_n 2, 1) := by decide +kernel
theorem d_Md_places_18 : decode b_Md_places 18 = .ok (.aload_n 0, 1) := by decide +kernel
theorem d_Md_places_19 : decode b_Md_places 19 = .ok (.getfield 37, 3) := by decide +kernel
theorem d_Md_places_22 : decode b_Md_places 22 = .ok (.getfield 318, 3) := by decide +kernel
theorem d_Md_places_25 : decode b_Md_places 25 = .ok (.iload_n 3, 1) := by decide +kernel
theorem d_Md_places_26 : decode b_Md_places 26 = .ok (.iaload, 1) := by decide +kernel
theorem d_Md_places_27 : decode b_Md_places 27 = .ok (.iload_n 1, 1) := by decide +kernel
theorem d_Md_places_28 : decode b_Md_places 28 = .ok (.if_icmp .ne 7, 3) := by decide +kernel
theorem d_Md_places_35 : decode b_Md_places 35 = .ok (.iconst 0, 1) := by decide +kernel
theorem d_Md_places_31 : decode b_Md_places 31 = .ok (.iconst 1, 1) := by decide +kernel
theorem d_Md_places_32 : decode b_Md_places 32 = .ok (.goto 4, 3) := by decide +kernel
theorem d_Md_places_0 : decode b_Md_places 0 = .ok (.iconst 0, 1) := by decide +kernel
theorem d_Md_places_1 : decode b_Md_places 1 = .ok (.istore_n 2, 1) := by decide +kernel
theorem d_Md_places_2 : decode b_Md_places 2 = .ok (.iconst 0, 1) := by decide +kernel
theorem d_Md_places_3 : decode b_Md_places 3 = .ok (.istore_n 3, 1) := by decide +kernel
theorem d_Md_ins_44 : decode b_Md_ins 44 = .ok (.iadd, 1) := by decide +kernel
theorem d_Md_ins_45 : decode b_Md_ins 45 = .ok (.istore_n 2, 1) := by decide +kernel
theorem d_Md_ins_46 : decode b_Md_ins 46 = .ok (.iinc 3 1, 3) := by decide +kernel
theorem d_Md_ins_49 : decode b_Md_ins 49 = .ok (.goto (-45), 3) := by decide +kernel
theorem d_Md_ins_43 : decode b_Md_ins 43 = .ok (.iconst 0, 1) := by decide +kernel
theorem d_Md_ins_4 : decode b_Md_ins 4 = .ok (.iload_n 3, 1) := by decide +kernel
theorem d_Md_ins_5 : decode b_Md_ins 5 = .ok (.iconst 4, 1) := by decide +kernel
theorem d_Md_ins_6 : decode b_Md_ins 6 = .ok (.aload_n 0, 1) := by decide +kernel
theorem d_Md_ins_7 : decode b_Md_ins 7 = .ok (.getfield 37, 3) := by decide +kernel
theorem d_Md_ins_10 : decode b_Md_ins 10 = .ok (.getfield 312, 3) := by decide +kernel
theorem d_Md_ins_13 : decode b_Md_ins 13 = .ok (.imul, 1) := by decide +kernel
theorem d_Md_ins_14 : decode b_Md_ins 14 = .ok (.if_icmp .ge 38, 3) := by decide +kernel
theorem d_Md_ins_52 : decode b_Md_ins 52 = .ok (.iload_n 2, 1) := by decide +kernel
theorem d_Md_ins_53 : decode b_Md_ins 53 = .ok (.ireturn, 1) := by decide +kernel
theorem d_Md_ins_17 : decode b_Md_ins 17 = .ok (.iload_n 2, 1) := by decide +kernel
theorem d_Md_ins_18 : decode b_Md_ins 18 = .ok (.aload_n 0, 1) := by decide +kernel
theorem d_Md_ins_19 : decode b_Md_ins 19 = .ok (.getfield 37, 3) := by decide +kernel
theorem d_Md_ins_22 : decode b_Md_ins 22 = .ok (.getfield 318, 3) := by decide +kernel
theorem d_Md_ins_25 : decode b_Md_ins 25 = .ok (.iload_n 3, 1) := by decide +kernel
theorem d_Md_ins_26 : decode b_Md_ins 26 = .ok (.iaload, 1) := by decide +kernel
theorem d_Md_ins_27 : decode b_Md_ins 27 = .ok (.iload_n 1, 1) := by decide +kernel
theorem d_Md_ins_28 : decode b_Md_ins 28 = .ok (.if_icmp .ne 15, 3) := by decide +kernel
theorem d_Md_ins_31 : decode b_Md_ins 31 = .ok (.aload_n 0, 1) := by decide +kernel
theorem d_Md_ins_32 : decode b_Md_ins 32 = .ok (.iload_n 3, 1) := by decide +kernel
theorem d_Md_ins_33 : decode b_Md_ins 33 = .ok (.invokevirtual 315, 3) := by decide +kernel
theorem d_Md_ins_36 : decode b_Md_ins 36 = .ok (.ifCond .eq 7, 3) := by decide +kernel
theorem d_Md_ins_39 : decode b_Md_ins 39 = .ok (.iconst 1, 1) := by decide +kernel
theorem d_Md_ins_40 : decode b_Md_ins 40 = .ok (.goto 4, 3) := by decide +kernel
theorem d_Md_ins_0 : decode b_Md_ins 0 = .ok (.iconst 0, 1) := by decide +kernel
theorem d_Md_ins_1 : decode b_Md_ins 1 = .ok (.istore_n 2, 1) := by decide +kernel
theorem d_Md_ins_2 : decode b_Md_ins 2 = .ok (.iconst 0, 1) := by decide +kernel
theorem d_Md_ins_3 : decode b_Md_ins 3 = .ok (.istore_n 3, 1) := by decide +kernel
theorem d_Md_broken_124 : decode b_Md_broken 124 = .ok (.iinc 1 1, 3) := by decide +kernel
theorem d_Md_broken_127 : decode b_Md_broken 127 = .ok (.goto (-125), 3) := by decide +kernel
theorem d_Md_broken_107 : decode b_Md_broken 107 = .ok (.iadd, 1) := by decide +kernel
theorem d_Md_broken_108 : decode b_Md_broken 108 = .ok (.istore_n 3, 1) := by decide +kernel
theorem d_Md_broken_109 : decode b_Md_broken 109 = .ok (.iinc 4 1, 3) := by decide +kernel
theorem d_Md_broken_112 : decode b_Md_broken 112 = .ok (.goto (-42), 3) := by decide +kernel
theorem d_Md_broken_70 : decode b_Md_broken 70 = .ok (.iload 4, 2) := by decide +kernel
theorem d_Md_broken_72 : decode b_Md_broken 72 = .ok (.aload_n 0, 1) := by decide +kernel
theorem d_Md_broken_73 : decode b_Md_broken 73 = .ok (.getfield 331, 3) := by decide +kernel
theorem d_Md_broken_76 : decode b_Md_broken 76 = .ok (.if_icmp .ge 39, 3) := by decide +kernel
theorem d_Md_broken_115 : decode b_Md_broken 115 = .ok (.iload_n 3, 1) := by decide +kernel
theorem d_Md_broken_116 : decode b_Md_broken 116 = .ok (.iload_n 2, 1) := by decide +kernel
theorem d_Md_broken_117 : decode b_Md_broken 117 = .ok (.iconst 2, 1) := by decide +kernel
theorem d_Md_broken_118 : decode b_Md_broken 118 = .ok (.iadd, 1) := by decide +kernel
theorem d_Md_broken_119 : decode b_Md_broken 119 = .ok (.if_icmp .eq 5, 3) := by decide +kernel
theorem d_Md_broken_122 : decode b_Md_broken 122 = .ok (.iload_n 1, 1) := by decide +kernel
theorem d_Md_broken_123 : decode b_Md_broken 123 = .ok (.ireturn, 1) := by decide +kernel
theorem d_Md_broken_79 : decode b_Md_broken 79 = .ok (.iload_n 3, 1) := by decide +kernel
theorem d_Md_broken_80 : decode b_Md_broken 80 = .ok (.aload_n 0, 1) := by decide +kernel
theorem d_Md_broken_81 : decode b_Md_broken 81 = .ok (.getfield 90, 3) := by decide +kernel
theorem d_Md_broken_84 : decode b_Md_broken 84 = .ok (.aload_n 0, 1) := by decide +kernel
theorem d_Md_broken_85 : decode b_Md_broken 85 = .ok (.aload_n 0, 1) := by decide +kernel
theorem d_Md_broken_86 : decode b_Md_broken 86 = .ok (.getfield 87, 3) := by decide +kernel
theorem d_Md_broken_89 : decode b_Md_broken 89 = .ok (.iload 4, 2) := by decide +kernel
theorem d_Md_broken_91 : decode b_Md_broken 91 = .ok (.iaload, 1) := by decide +kernel
