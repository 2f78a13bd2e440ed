theorem d_Md_meet_132 : decode b_Md_meet 132 = .ok (.invokestatic 466, 3) := by decide +kernel
theorem d_Md_meet_135 : decode b_Md_meet 135 = .ok (.aload_n 0, 1) := by decide +kernel
theorem d_Md_meet_136 : decode b_Md_meet 136 = .ok (.getfield 123, 3) := by decide +kernel
theorem d_Md_meet_139 : decode b_Md_meet 139 = .ok (.invokestatic 466, 3) := by decide +kernel
theorem d_Md_meet_142 : decode b_Md_meet 142 = .ok (.if_icmp .lt 17, 3) := by decide +kernel
theorem d_Md_meet_159 : decode b_Md_meet 159 = .ok (.aload_n 0, 1) := by decide +kernel
theorem d_Md_meet_160 : decode b_Md_meet 160 = .ok (.getfield 123, 3) := by decide +kernel
theorem d_Md_meet_163 : decode b_Md_meet 163 = .ok (.aload_n 0, 1) := by decide +kernel
theorem d_Md_meet_164 : decode b_Md_meet 164 = .ok (.getfield 120, 3) := by decide +kernel
theorem d_Md_meet_167 : decode b_Md_meet 167 = .ok (.invokestatic 486, 3) := by decide +kernel
theorem d_Md_meet_170 : decode b_Md_meet 170 = .ok (.goto (-62), 3) := by decide +kernel
theorem d_Md_meet_145 : decode b_Md_meet 145 = .ok (.aload_n 0, 1) := by decide +kernel
theorem d_Md_meet_146 : decode b_Md_meet 146 = .ok (.getfield 120, 3) := by decide +kernel
theorem d_Md_meet_149 : decode b_Md_meet 149 = .ok (.aload_n 0, 1) := by decide +kernel
theorem d_Md_meet_150 : decode b_Md_meet 150 = .ok (.getfield 123, 3) := by decide +kernel
theorem d_Md_meet_153 : decode b_Md_meet 153 = .ok (.invokestatic 486, 3) := by decide +kernel
theorem d_Md_meet_156 : decode b_Md_meet 156 = .ok (.goto (-48), 3) := by decide +kernel
theorem d_Md_meet_37 : decode b_Md_meet 37 = .ok (.iload_n 1, 1) := by decide +kernel
theorem d_Md_meet_38 : decode b_Md_meet 38 = .ok (.bipush 16, 2) := by decide +kernel
theorem d_Md_meet_40 : decode b_Md_meet 40 = .ok (.if_icmp .ge 21, 3) := by decide +kernel
theorem d_Md_meet_61 : decode b_Md_meet 61 = .ok (.return_, 1) := by decide +kernel
theorem d_Md_meet_43 : decode b_Md_meet 43 = .ok (.aload_n 0, 1) := by decide +kernel
theorem d_Md_meet_44 : decode b_Md_meet 44 = .ok (.getfield 120, 3) := by decide +kernel
theorem d_Md_meet_47 : decode b_Md_meet 47 = .ok (.iload_n 1, 1) := by decide +kernel
theorem d_Md_meet_48 : decode b_Md_meet 48 = .ok (.aload_n 0, 1) := by decide +kernel
theorem d_Md_meet_49 : decode b_Md_meet 49 = .ok (.getfield 123, 3) := by decide +kernel
theorem d_Md_meet_52 : decode b_Md_meet 52 = .ok (.iload_n 1, 1) := by decide +kernel
theorem d_Md_meet_53 : decode b_Md_meet 53 = .ok (.laload, 1) := by decide +kernel
theorem d_Md_meet_54 : decode b_Md_meet 54 = .ok (.lastore, 1) := by decide +kernel
theorem d_Md_meet_55 : decode b_Md_meet 55 = .ok (.iinc 1 1, 3) := by decide +kernel
theorem d_Md_meet_58 : decode b_Md_meet 58 = .ok (.goto (-21), 3) := by decide +kernel
theorem d_Md_meet_0 : decode b_Md_meet 0 = .ok (.aload_n 0, 1) := by decide +kernel
theorem d_Md_meet_1 : decode b_Md_meet 1 = .ok (.getfield 120, 3) := by decide +kernel
theorem d_Md_meet_4 : decode b_Md_meet 4 = .ok (.invokestatic 474, 3) := by decide +kernel
theorem d_Md_meet_7 : decode b_Md_meet 7 = .ok (.aload_n 0, 1) := by decide +kernel
theorem d_Md_meet_8 : decode b_Md_meet 8 = .ok (.getfield 123, 3) := by decide +kernel
theorem d_Md_meet_11 : decode b_Md_meet 11 = .ok (.invokestatic 474, 3) := by decide +kernel
theorem d_Md_meet_14 : decode b_Md_meet 14 = .ok (.aload_n 0, 1) := by decide +kernel
theorem d_Md_meet_15 : decode b_Md_meet 15 = .ok (.getfield 123, 3) := by decide +kernel
theorem d_Md_meet_18 : decode b_Md_meet 18 = .ok (.invokestatic 466, 3) := by decide +kernel
theorem d_Md_meet_21 : decode b_Md_meet 21 = .ok (.ifCond .ge 4, 3) := by decide +kernel
theorem d_Md_meet_25 : decode b_Md_meet 25 = .ok (.aload_n 0, 1) := by decide +kernel
theorem d_Md_meet_26 : decode b_Md_meet 26 = .ok (.getfield 120, 3) := by decide +kernel
theorem d_Md_meet_29 : decode b_Md_meet 29 = .ok (.invokestatic 466, 3) := by decide +kernel
theorem d_Md_meet_32 : decode b_Md_meet 32 = .ok (.ifCond .ge 30, 3) := by decide +kernel
theorem d_Md_meet_62 : decode b_Md_meet 62 = .ok (.aload_n 0, 1) := by decide +kernel
theorem d_Md_meet_63 : decode b_Md_meet 63 = .ok (.getfield 120, 3) := by decide +kernel
theorem d_Md_meet_66 : decode b_Md_meet 66 = .ok (.invokestatic 478, 3) := by decide +kernel
theorem d_Md_meet_69 : decode b_Md_meet 69 = .ok (.aload_n 0, 1) := by decide +kernel
theorem d_Md_meet_70 : decode b_Md_meet 70 = .ok (.getfield 123, 3) := by decide +kernel
theorem d_Md_meet_73 : decode b_Md_meet 73 = .ok (.invokestatic 478, 3) := by decide +kernel
theorem d_Md_meet_76 : decode b_Md_meet 76 = .ok (.invokestatic 470, 3) := by decide +kernel
theorem d_Md_meet_79 : decode b_Md_meet 79 = .ok (.lstore_n 1, 1) := by decide +kernel
theorem d_Md_meet_80 : decode b_Md_meet 80 = .ok (.aload_n 0, 1) := by decide +kernel
theorem d_Md_meet_81 : decode b_Md_meet 81 = .ok (.getfield 120, 3) := by decide +kernel
theorem d_Md_meet_84 : decode b_Md_meet 84 = .ok (.aload_n 0, 1) := by decide +kernel
theorem d_Md_meet_85 : decode b_Md_meet 85 = .ok (.getfield 120, 3) := by decide +kernel
theorem d_Md_meet_88 : decode b_Md_meet 88 = .ok (.invokestatic 478, 3) := by decide +kernel
theorem d_Md_meet_91 : decode b_Md_meet 91 = .ok (.invokestatic 482, 3) := by decide +kernel
theorem d_Md_meet_94 : decode b_Md_meet 94 = .ok (.aload_n 0, 1) := by decide +kernel
theorem d_Md_meet_95 : decode b_Md_meet 95 = .ok (.getfield 123, 3) := by decide +kernel
theorem d_Md_meet_98 : decode b_Md_meet 98 = .ok (.aload_n 0, 1) := by decide +kernel
theorem d_Md_meet_99 : decode b_Md_meet 99 = .ok (.getfield 123, 3) := by decide +kernel
theorem d_Md_meet_102 : decode b_Md_meet 102 = .ok (.invokestatic 478, 3) := by decide +kernel
theorem d_Md_meet_105 : decode b_Md_meet 105 = .ok (.invokestatic 482, 3) := by decide +kernel
theorem d_Md_meet_35 : decode b_Md_meet 35 = .ok (.iconst 0, 1) := by decide +kernel
theorem d_Md_meet_36 : decode b_Md_meet 36 = .ok (.istore_n 1, 1) := by decide +kernel
theorem d_Md_meet_24 : decode b_Md_meet 24 = .ok (.return_, 1) := by decide +kernel
theorem d_Mi_alexander_118 : decode b_Mi_alexander 118 = .ok (.aload_n 3, 1) := by decide +kernel
theorem d_Mi_alexander_119 : decode b_Mi_alexander 119 = .ok (.invokevirtual 55, 3) := by decide +kernel
theorem d_Mi_alexander_122 : decode b_Mi_alexander 122 = .ok (.return_, 1) := by decide +kernel
theorem d_Mi_alexander_72 : decode b_Mi_alexander 72 = .ok (.iload 5, 2) := by decide +kernel
theorem d_Mi_alexander_74 : decode b_Mi_alexander 74 = .ok (.aload_n 0, 1) := by decide +kernel
theorem d_Mi_alexander_75 : decode b_Mi_alexander 75 = .ok (.getfield 35, 3) := by decide +kernel
theorem d_Mi_alexander_78 : decode b_Mi_alexander 78 = .ok (.if_icmp .gt 40, 3) := by decide +kernel
theorem d_Mi_alexander_81 : decode b_Mi_alexander 81 = .ok (.aload_n 0, 1) := by decide +kernel
theorem d_Mi_alexander_82 : decode b_Mi_alexander 82 = .ok (.getfield 15, 3) := by decide +kernel
theorem d_Mi_alexander_85 : decode b_Mi_alexander 85 = .ok (.iload 4, 2) := by decide +kernel
theorem d_Mi_alexander_87 : decode b_Mi_alexander 87 = .ok (.iaload, 1) := by decide +kernel
theorem d_Mi_alexander_88 : decode b_Mi_alexander 88 = .ok (.iconst 1, 1) := by decide +kernel
theorem d_Mi_alexander_89 : decode b_Mi_alexander 89 = .ok (.if_icmp .ne 29, 3) := by decide +kernel
theorem d_Mi_alexander_92 : decode b_Mi_alexander 92 = .ok (.aload_n 3, 1) := by decide +kernel
theorem d_Mi_alexander_93 : decode b_Mi_alexander 93 = .ok (.iload 5, 2) := by decide +kernel
theorem d_Mi_alexander_95 : decode b_Mi_alexander 95 = .ok (.aload_n 0, 1) := by decide +kernel
theorem d_Mi_alexander_96 : decode b_Mi_alexander 96 = .ok (.getfield 11, 3) := by decide +kernel
theorem d_Mi_alexander_99 : decode b_Mi_alexander 99 = .ok (.iload 4, 2) := by decide +kernel
theorem d_Mi_alexander_101 : decode b_Mi_alexander 101 = .ok (.bipush 10, 2) := by decide +kernel
theorem d_Mi_alexander_103 : decode b_Mi_alexander 103 = .ok (.imul, 1) := by decide +kernel
theorem d_Mi_alexander_104 : decode b_Mi_alexander 104 = .ok (.iload 5, 2) := by decide +kernel
theorem d_Mi_alexander_106 : decode b_Mi_alexander 106 = .ok (.iadd, 1) := by decide +kernel
theorem d_Mi_alexander_107 : decode b_Mi_alexander 107 = .ok (.iaload, 1) := by decide +kernel
theorem d_Mi_alexander_108 : decode b_Mi_alexander 108 = .ok (.i2l, 1) := by decide +kernel
theorem d_Mi_alexander_109 : decode b_Mi_alexander 109 = .ok (.invokevirtual 51, 3) := by decide +kernel
theorem d_Mi_alexander_112 : decode b_Mi_alexander 112 = .ok (.iinc 5 1, 3) := by decide +kernel
theorem d_Mi_alexander_115 : decode b_Mi_alexander 115 = .ok (.goto (-43), 3) := by decide +kernel
theorem d_Mi_alexander_0 : decode b_Mi_alexander 0 = .ok (.aload_n 3, 1) := by decide +kernel
theorem d_Mi_alexander_1 : decode b_Mi_alexander 1 = .ok (.invokevirtual 18, 3) := by decide +kernel
theorem d_Mi_alexander_4 : decode b_Mi_alexander 4 = .ok (.aload_n 0, 1) := by decide +kernel
theorem d_Mi_alexander_5 : decode b_Mi_alexander 5 = .ok (.aload_n 2, 1) := by decide +kernel
theorem d_Mi_alexander_6 : decode b_Mi_alexander 6 = .ok (.invokevirtual 23, 3) := by decide +kernel
theorem d_Mi_alexander_9 : decode b_Mi_alexander 9 = .ok (.aload_n 1, 1) := by decide +kernel
theorem d_Mi_alexander_10 : decode b_Mi_alexander 10 = .ok (.getfield 29, 3) := by decide +kernel
theorem d_Mi_alexander_13 : decode b_Mi_alexander 13 = .ok (.iadd, 1) := by decide +kernel
theorem d_Mi_alexander_14 : decode b_Mi_alexander 14 = .ok (.iconst 1, 1) := by decide +kernel
theorem d_Mi_alexander_15 : decode b_Mi_alexander 15 = .ok (.isub, 1) := by decide +kernel
theorem d_Mi_alexander_16 : decode b_Mi_alexander 16 = .ok (.putfield 35, 3) := by decide +kernel
theorem d_Mi_alexander_19 : decode b_Mi_alexander 19 = .ok (.aload_n 0, 1) := by decide +kernel
theorem d_Mi_alexander_20 : decode b_Mi_alexander 20 = .ok (.getfield 35, 3) := by decide +kernel
theorem d_Mi_alexander_23 : decode b_Mi_alexander 23 = .ok (.ifCond .lt 29, 3) := by decide +kernel
theorem d_Mi_alexander_52 : decode b_Mi_alexander 52 = .ok (.return_, 1) := by decide +kernel
theorem d_Mi_alexander_26 : decode b_Mi_alexander 26 = .ok (.aload_n 0, 1) := by decide +kernel
theorem d_Mi_alexander_27 : decode b_Mi_alexander 27 = .ok (.getfield 35, 3) := by decide +kernel
theorem d_Mi_alexander_30 : decode b_Mi_alexander 30 = .ok (.iconst 0, 1) := by decide +kernel
theorem d_Mi_alexander_31 : decode b_Mi_alexander 31 = .ok (.aload_n 1, 1) := by decide +kernel
theorem d_Mi_alexander_32 : decode b_Mi_alexander 32 = .ok (.getfield 38, 3) := by decide +kernel
theorem d_Mi_alexander_35 : decode b_Mi_alexander 35 = .ok (.iconst 1, 1) := by decide +kernel
theorem d_Mi_alexander_36 : decode b_Mi_alexander 36 = .ok (.isub, 1) := by decide +kernel
theorem d_Mi_alexander_37 : decode b_Mi_alexander 37 = .ok (.invokestatic 41, 3) := by decide +kernel
theorem d_Mi_alexander_40 : decode b_Mi_alexander 40 = .ok (.if_icmp .gt 12, 3) := by decide +kernel
theorem d_Mi_alexander_43 : decode b_Mi_alexander 43 = .ok (.aload_n 0, 1) := by decide +kernel
theorem d_Mi_alexander_44 : decode b_Mi_alexander 44 = .ok (.getfield 35, 3) := by decide +kernel
theorem d_Mi_alexander_47 : decode b_Mi_alexander 47 = .ok (.bipush 9, 2) := by decide +kernel
theorem d_Mi_alexander_49 : decode b_Mi_alexander 49 = .ok (.if_icmp .le 4, 3) := by decide +kernel
theorem d_Mi_alexander_53 : decode b_Mi_alexander 53 = .ok (.aload_n 0, 1) := by decide +kernel
theorem d_Mi_alexander_54 : decode b_Mi_alexander 54 = .ok (.aload_n 1, 1) := by decide +kernel
theorem d_Mi_alexander_55 : decode b_Mi_alexander 55 = .ok (.aload_n 2, 1) := by decide +kernel
theorem d_Mi_alexander_56 : decode b_Mi_alexander 56 = .ok (.invokevirtual 47, 3) := by decide +kernel
theorem d_Mi_alexander_59 : decode b_Mi_alexander 59 = .ok (.iconst 1, 1) := by decide +kernel
theorem d_Mi_alexander_60 : decode b_Mi_alexander 60 = .ok (.aload_n 0, 1) := by decide +kernel
theorem d_Mi_alexander_61 : decode b_Mi_alexander 61 = .ok (.getfield 35, 3) := by decide +kernel
theorem d_Mi_alexander_64 : decode b_Mi_alexander 64 = .ok (.ishl, 1) := by decide +kernel
theorem d_Mi_alexander_65 : decode b_Mi_alexander 65 = .ok (.iconst 1, 1) := by decide +kernel
theorem d_Mi_alexander_66 : decode b_Mi_alexander 66 = .ok (.isub, 1) := by decide +kernel
theorem d_Mi_alexander_67 : decode b_Mi_alexander 67 = .ok (.istore 4, 2) := by decide +kernel
theorem d_Mi_alexander_69 : decode b_Mi_alexander 69 = .ok (.iconst 0, 1) := by decide +kernel
theorem d_Mi_alexander_70 : decode b_Mi_alexander 70 = .ok (.istore 5, 2) := by decide +kernel
theorem d_Br_findForm_65 : decode b_Br_findForm 65 = .ok (.aload_n 0, 1) := by decide +kernel
theorem d_Br_findForm_66 : decode b_Br_findForm 66 = .ok (.invokevirtual 79, 3) := by decide +kernel
theorem d_Br_findForm_69 : decode b_Br_findForm 69 = .ok (.iinc 1 1, 3) := by decide +kernel
theorem d_Br_findForm_72 : decode b_Br_findForm 72 = .ok (.goto (-52), 3) := by decide +kernel
theorem d_Br_findForm_28 : decode b_Br_findForm 28 = .ok (.aload_n 0, 1) := by decide +kernel
theorem d_Br_findForm_29 : decode b_Br_findForm 29 = .ok (.getfield 9, 3) := by decide +kernel
theorem d_Br_findForm_32 : decode b_Br_findForm 32 = .ok (.iload_n 1, 1) := by decide +kernel
theorem d_Br_findForm_33 : decode b_Br_findForm 33 = .ok (.iaload, 1) := by decide +kernel
theorem d_Br_findForm_34 : decode b_Br_findForm 34 = .ok (.ifCond .le 18, 3) := by decide +kernel
theorem d_Br_findForm_52 : decode b_Br_findForm 52 = .ok (.aload_n 0, 1) := by decide +kernel
theorem d_Br_findForm_53 : decode b_Br_findForm 53 = .ok (.aload_n 0, 1) := by decide +kernel
theorem d_Br_findForm_54 : decode b_Br_findForm 54 = .ok (.getfield 9, 3) := by decide +kernel
theorem d_Br_findForm_57 : decode b_Br_findForm 57 = .ok (.iload_n 1, 1) := by decide +kernel
theorem d_Br_findForm_58 : decode b_Br_findForm 58 = .ok (.iaload, 1) := by decide +kernel
theorem d_Br_findForm_59 : decode b_Br_findForm 59 = .ok (.ineg, 1) := by decide +kernel
theorem d_Br_findForm_60 : decode b_Br_findForm 60 = .ok (.iconst 1, 1) := by decide +kernel
theorem d_Br_findForm_61 : decode b_Br_findForm 61 = .ok (.isub, 1) := by decide +kernel
theorem d_Br_findForm_62 : decode b_Br_findForm 62 = .ok (.invokevirtual 76, 3) := by decide +kernel
theorem d_Br_findForm_37 : decode b_Br_findForm 37 = .ok (.aload_n 0, 1) := by decide +kernel
theorem d_Br_findForm_38 : decode b_Br_findForm 38 = .ok (.aload_n 0, 1) := by decide +kernel
theorem d_Br_findForm_39 : decode b_Br_findForm 39 = .ok (.getfield 9, 3) := by decide +kernel
theorem d_Br_findForm_42 : decode b_Br_findForm 42 = .ok (.iload_n 1, 1) := by decide +kernel
theorem d_Br_findForm_43 : decode b_Br_findForm 43 = .ok (.iaload, 1) := by decide +kernel
theorem d_Br_findForm_44 : decode b_Br_findForm 44 = .ok (.iconst 1, 1) := by decide +kernel
theorem d_Br_findForm_45 : decode b_Br_findForm 45 = .ok (.isub, 1) := by decide +kernel
theorem d_Br_findForm_46 : decode b_Br_findForm 46 = .ok (.invokevirtual 72, 3) := by decide +kernel
theorem d_Br_findForm_49 : decode b_Br_findForm 49 = .ok (.goto 16, 3) := by decide +kernel
theorem d_Br_findForm_7 : decode b_Br_findForm 7 = .ok (.return_, 1) := by decide +kernel
theorem d_Br_formAt_25 : decode b_Br_formAt 25 = .ok (.iload_n 2, 1) := by decide +kernel
theorem d_Br_formAt_26 : decode b_Br_formAt 26 = .ok (.iconst 1, 1) := by decide +kernel
theorem d_Br_formAt_27 : decode b_Br_formAt 27 = .ok (.if_icmp .lt 11, 3) := by decide +kernel
theorem d_Br_formAt_30 : decode b_Br_formAt 30 = .ok (.iload_n 2, 1) := by decide +kernel
theorem d_Br_formAt_31 : decode b_Br_formAt 31 = .ok (.aload_n 0, 1) := by decide +kernel
theorem d_Br_formAt_32 : decode b_Br_formAt 32 = .ok (.getfield 21, 3) := by decide +kernel
theorem d_Br_formAt_35 : decode b_Br_formAt 35 = .ok (.if_icmp .le 5, 3) := by decide +kernel
theorem d_Br_formAt_40 : decode b_Br_formAt 40 = .ok (.aload_n 0, 1) := by decide +kernel
theorem d_Br_formAt_41 : decode b_Br_formAt 41 = .ok (.getfield 15, 3) := by decide +kernel
theorem d_Br_formAt_44 : decode b_Br_formAt 44 = .ok (.iload_n 1, 1) := by decide +kernel
theorem d_Br_formAt_45 : decode b_Br_formAt 45 = .ok (.iconst 1, 1) := by decide +kernel
theorem d_Br_formAt_46 : decode b_Br_formAt 46 = .ok (.isub, 1) := by decide +kernel
theorem d_Br_formAt_47 : decode b_Br_formAt 47 = .ok (.bipush 8, 2) := by decide +kernel
theorem d_Br_formAt_49 : decode b_Br_formAt 49 = .ok (.imul, 1) := by decide +kernel
theorem d_Br_formAt_50 : decode b_Br_formAt 50 = .ok (.iload_n 2, 1) := by decide +kernel
theorem d_Br_formAt_51 : decode b_Br_formAt 51 = .ok (.iadd, 1) := by decide +kernel
theorem d_Br_formAt_52 : decode b_Br_formAt 52 = .ok (.iconst 1, 1) := by decide +kernel
theorem d_Br_formAt_53 : decode b_Br_formAt 53 = .ok (.isub, 1) := by decide +kernel
theorem d_Br_formAt_54 : decode b_Br_formAt 54 = .ok (.iaload, 1) := by decide +kernel
theorem d_Br_formAt_55 : decode b_Br_formAt 55 = .ok (.iconst 1, 1) := by decide +kernel
theorem d_Br_formAt_56 : decode b_Br_formAt 56 = .ok (.iadd, 1) := by decide +kernel
theorem d_Br_formAt_57 : decode b_Br_formAt 57 = .ok (.ireturn, 1) := by decide +kernel
theorem d_Md_same_141 : decode b_Md_same 141 = .ok (.istore_n 1, 1) := by decide +kernel
theorem d_Md_same_142 : decode b_Md_same 142 = .ok (.iinc 3 1, 3) := by decide +kernel
theorem d_Md_same_145 : decode b_Md_same 145 = .ok (.goto (-55), 3) := by decide +kernel
theorem d_Md_same_140 : decode b_Md_same 140 = .ok (.iconst 0, 1) := by decide +kernel
theorem d_Md_same_90 : decode b_Md_same 90 = .ok (.iload_n 3, 1) := by decide +kernel
theorem d_Md_same_91 : decode b_Md_same 91 = .ok (.aload_n 0, 1) := by decide +kernel
theorem d_Md_same_92 : decode b_Md_same 92 = .ok (.getfield 50, 3) := by decide +kernel
theorem d_Md_same_95 : decode b_Md_same 95 = .ok (.getfield 395, 3) := by decide +kernel
theorem d_Md_same_98 : decode b_Md_same 98 = .ok (.if_icmp .gt 50, 3) := by decide +kernel
theorem d_Md_same_148 : decode b_Md_same 148 = .ok (.iinc 2 1, 3) := by decide +kernel
theorem d_Md_same_151 : decode b_Md_same 151 = .ok (.goto (-78), 3) := by decide +kernel
theorem d_Md_same_101 : decode b_Md_same 101 = .ok (.iload_n 1, 1) := by decide +kernel
theorem d_Md_same_102 : decode b_Md_same 102 = .ok (.ifCond .eq 38, 3) := by decide +kernel
theorem d_Md_same_105 : decode b_Md_same 105 = .ok (.aload_n 0, 1) := by decide +kernel
