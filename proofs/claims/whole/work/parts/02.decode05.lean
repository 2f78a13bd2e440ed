theorem d_En_wipe_16 : decode b_En_wipe 16 = .ok (.getfield 181, 3) := by decide +kernel
theorem d_En_wipe_19 : decode b_En_wipe 19 = .ok (.iconst 0, 1) := by decide +kernel
theorem d_En_wipe_20 : decode b_En_wipe 20 = .ok (.aload_n 0, 1) := by decide +kernel
theorem d_En_wipe_21 : decode b_En_wipe 21 = .ok (.getfield 20, 3) := by decide +kernel
theorem d_En_wipe_24 : decode b_En_wipe 24 = .ok (.iconst 0, 1) := by decide +kernel
theorem d_En_wipe_25 : decode b_En_wipe 25 = .ok (.iload_n 2, 1) := by decide +kernel
theorem d_En_wipe_26 : decode b_En_wipe 26 = .ok (.invokestatic 184, 3) := by decide +kernel
theorem d_En_wipe_29 : decode b_En_wipe 29 = .ok (.aload_n 0, 1) := by decide +kernel
theorem d_En_wipe_30 : decode b_En_wipe 30 = .ok (.iload_n 2, 1) := by decide +kernel
theorem d_En_wipe_31 : decode b_En_wipe 31 = .ok (.putfield 89, 3) := by decide +kernel
theorem d_En_wipe_34 : decode b_En_wipe 34 = .ok (.aload_n 0, 1) := by decide +kernel
theorem d_En_wipe_35 : decode b_En_wipe 35 = .ok (.getfield 31, 3) := by decide +kernel
theorem d_En_wipe_38 : decode b_En_wipe 38 = .ok (.iconst 0, 1) := by decide +kernel
theorem d_En_wipe_39 : decode b_En_wipe 39 = .ok (.putfield 138, 3) := by decide +kernel
theorem d_En_wipe_42 : decode b_En_wipe 42 = .ok (.iload_n 2, 1) := by decide +kernel
theorem d_En_wipe_43 : decode b_En_wipe 43 = .ok (.ireturn, 1) := by decide +kernel
theorem d_En_wordOf_0 : decode b_En_wordOf 0 = .ok (.iload_n 0, 1) := by decide +kernel
theorem d_En_wordOf_1 : decode b_En_wordOf 1 = .ok (.tableswitch 159 1 18 #[87, 91, 95, 99, 103, 107, 111, 115, 119, 123, 127, 131, 135, 139, 143, 147, 151, 155], 87) := by decide +kernel
theorem d_En_wordOf_88 : decode b_En_wordOf 88 = .ok (.ldc_w 375, 3) := by decide +kernel
theorem d_En_wordOf_91 : decode b_En_wordOf 91 = .ok (.areturn, 1) := by decide +kernel
theorem d_En_wordOf_92 : decode b_En_wordOf 92 = .ok (.ldc_w 377, 3) := by decide +kernel
theorem d_En_wordOf_95 : decode b_En_wordOf 95 = .ok (.areturn, 1) := by decide +kernel
theorem d_En_wordOf_96 : decode b_En_wordOf 96 = .ok (.ldc_w 379, 3) := by decide +kernel
theorem d_En_wordOf_99 : decode b_En_wordOf 99 = .ok (.areturn, 1) := by decide +kernel
theorem d_En_wordOf_100 : decode b_En_wordOf 100 = .ok (.ldc_w 380, 3) := by decide +kernel
theorem d_En_wordOf_103 : decode b_En_wordOf 103 = .ok (.areturn, 1) := by decide +kernel
theorem d_En_wordOf_104 : decode b_En_wordOf 104 = .ok (.ldc_w 381, 3) := by decide +kernel
theorem d_En_wordOf_107 : decode b_En_wordOf 107 = .ok (.areturn, 1) := by decide +kernel
theorem d_En_wordOf_108 : decode b_En_wordOf 108 = .ok (.ldc_w 382, 3) := by decide +kernel
theorem d_En_wordOf_111 : decode b_En_wordOf 111 = .ok (.areturn, 1) := by decide +kernel
theorem d_En_wordOf_112 : decode b_En_wordOf 112 = .ok (.ldc_w 383, 3) := by decide +kernel
theorem d_En_wordOf_115 : decode b_En_wordOf 115 = .ok (.areturn, 1) := by decide +kernel
theorem d_En_wordOf_116 : decode b_En_wordOf 116 = .ok (.ldc_w 384, 3) := by decide +kernel
theorem d_En_wordOf_119 : decode b_En_wordOf 119 = .ok (.areturn, 1) := by decide +kernel
theorem d_En_wordOf_120 : decode b_En_wordOf 120 = .ok (.ldc_w 385, 3) := by decide +kernel
theorem d_En_wordOf_123 : decode b_En_wordOf 123 = .ok (.areturn, 1) := by decide +kernel
theorem d_En_wordOf_124 : decode b_En_wordOf 124 = .ok (.ldc_w 386, 3) := by decide +kernel
theorem d_En_wordOf_127 : decode b_En_wordOf 127 = .ok (.areturn, 1) := by decide +kernel
theorem d_En_wordOf_128 : decode b_En_wordOf 128 = .ok (.ldc_w 387, 3) := by decide +kernel
theorem d_En_wordOf_131 : decode b_En_wordOf 131 = .ok (.areturn, 1) := by decide +kernel
theorem d_En_wordOf_132 : decode b_En_wordOf 132 = .ok (.ldc_w 388, 3) := by decide +kernel
theorem d_En_wordOf_135 : decode b_En_wordOf 135 = .ok (.areturn, 1) := by decide +kernel
theorem d_En_wordOf_136 : decode b_En_wordOf 136 = .ok (.ldc_w 389, 3) := by decide +kernel
theorem d_En_wordOf_139 : decode b_En_wordOf 139 = .ok (.areturn, 1) := by decide +kernel
theorem d_En_wordOf_140 : decode b_En_wordOf 140 = .ok (.ldc_w 391, 3) := by decide +kernel
theorem d_En_wordOf_143 : decode b_En_wordOf 143 = .ok (.areturn, 1) := by decide +kernel
theorem d_En_wordOf_144 : decode b_En_wordOf 144 = .ok (.ldc_w 392, 3) := by decide +kernel
theorem d_En_wordOf_147 : decode b_En_wordOf 147 = .ok (.areturn, 1) := by decide +kernel
theorem d_En_wordOf_148 : decode b_En_wordOf 148 = .ok (.ldc_w 393, 3) := by decide +kernel
theorem d_En_wordOf_151 : decode b_En_wordOf 151 = .ok (.areturn, 1) := by decide +kernel
theorem d_En_wordOf_152 : decode b_En_wordOf 152 = .ok (.ldc_w 394, 3) := by decide +kernel
theorem d_En_wordOf_155 : decode b_En_wordOf 155 = .ok (.areturn, 1) := by decide +kernel
theorem d_En_wordOf_156 : decode b_En_wordOf 156 = .ok (.ldc_w 396, 3) := by decide +kernel
theorem d_En_wordOf_159 : decode b_En_wordOf 159 = .ok (.areturn, 1) := by decide +kernel
theorem d_En_wordOf_160 : decode b_En_wordOf 160 = .ok (.ldc_w 397, 3) := by decide +kernel
theorem d_En_wordOf_163 : decode b_En_wordOf 163 = .ok (.areturn, 1) := by decide +kernel
theorem d_Br_init_0 : decode b_Br_init 0 = .ok (.aload_n 0, 1) := by decide +kernel
theorem d_Br_init_1 : decode b_Br_init 1 = .ok (.invokespecial 3, 3) := by decide +kernel
theorem d_Br_init_4 : decode b_Br_init 4 = .ok (.aload_n 0, 1) := by decide +kernel
theorem d_Br_init_5 : decode b_Br_init 5 = .ok (.bipush 20, 2) := by decide +kernel
theorem d_Br_init_7 : decode b_Br_init 7 = .ok (.newarray .int, 2) := by decide +kernel
theorem d_Br_init_9 : decode b_Br_init 9 = .ok (.putfield 9, 3) := by decide +kernel
theorem d_Br_init_12 : decode b_Br_init 12 = .ok (.aload_n 0, 1) := by decide +kernel
theorem d_Br_init_13 : decode b_Br_init 13 = .ok (.sipush 168, 3) := by decide +kernel
theorem d_Br_init_16 : decode b_Br_init 16 = .ok (.newarray .int, 2) := by decide +kernel
theorem d_Br_init_18 : decode b_Br_init 18 = .ok (.putfield 15, 3) := by decide +kernel
theorem d_Br_init_21 : decode b_Br_init 21 = .ok (.aload_n 0, 1) := by decide +kernel
theorem d_Br_init_22 : decode b_Br_init 22 = .ok (.bipush 8, 2) := by decide +kernel
theorem d_Br_init_24 : decode b_Br_init 24 = .ok (.newarray .int, 2) := by decide +kernel
theorem d_Br_init_26 : decode b_Br_init 26 = .ok (.putfield 18, 3) := by decide +kernel
theorem d_Br_init_29 : decode b_Br_init 29 = .ok (.aload_n 0, 1) := by decide +kernel
theorem d_Br_init_30 : decode b_Br_init 30 = .ok (.iconst 1, 1) := by decide +kernel
theorem d_Br_init_31 : decode b_Br_init 31 = .ok (.putfield 21, 3) := by decide +kernel
theorem d_Br_init_34 : decode b_Br_init 34 = .ok (.return_, 1) := by decide +kernel
theorem d_Br_appendInverseSwap_0 : decode b_Br_appendInverseSwap 0 = .ok (.iconst 0, 1) := by decide +kernel
theorem d_Br_appendInverseSwap_1 : decode b_Br_appendInverseSwap 1 = .ok (.istore_n 2, 1) := by decide +kernel
theorem d_Br_appendInverseSwap_2 : decode b_Br_appendInverseSwap 2 = .ok (.iload_n 2, 1) := by decide +kernel
theorem d_Br_appendInverseSwap_3 : decode b_Br_appendInverseSwap 3 = .ok (.aload_n 0, 1) := by decide +kernel
theorem d_Br_appendInverseSwap_4 : decode b_Br_appendInverseSwap 4 = .ok (.getfield 66, 3) := by decide +kernel
theorem d_Br_appendInverseSwap_7 : decode b_Br_appendInverseSwap 7 = .ok (.if_icmp .ge 17, 3) := by decide +kernel
theorem d_Br_appendInverseSwap_10 : decode b_Br_appendInverseSwap 10 = .ok (.aload_n 0, 1) := by decide +kernel
theorem d_Br_appendInverseSwap_11 : decode b_Br_appendInverseSwap 11 = .ok (.iload_n 2, 1) := by decide +kernel
theorem d_Br_appendInverseSwap_12 : decode b_Br_appendInverseSwap 12 = .ok (.bipush 8, 2) := by decide +kernel
theorem d_Br_appendInverseSwap_14 : decode b_Br_appendInverseSwap 14 = .ok (.imul, 1) := by decide +kernel
theorem d_Br_appendInverseSwap_15 : decode b_Br_appendInverseSwap 15 = .ok (.invokevirtual 82, 3) := by decide +kernel
theorem d_Br_appendInverseSwap_18 : decode b_Br_appendInverseSwap 18 = .ok (.iinc 2 1, 3) := by decide +kernel
theorem d_Br_appendInverseSwap_21 : decode b_Br_appendInverseSwap 21 = .ok (.goto (-19), 3) := by decide +kernel
theorem d_Br_appendInverseSwap_24 : decode b_Br_appendInverseSwap 24 = .ok (.aload_n 0, 1) := by decide +kernel
theorem d_Br_appendInverseSwap_25 : decode b_Br_appendInverseSwap 25 = .ok (.dup, 1) := by decide +kernel
theorem d_Br_appendInverseSwap_26 : decode b_Br_appendInverseSwap 26 = .ok (.getfield 69, 3) := by decide +kernel
theorem d_Br_appendInverseSwap_29 : decode b_Br_appendInverseSwap 29 = .ok (.iconst 1, 1) := by decide +kernel
theorem d_Br_appendInverseSwap_30 : decode b_Br_appendInverseSwap 30 = .ok (.isub, 1) := by decide +kernel
theorem d_Br_appendInverseSwap_31 : decode b_Br_appendInverseSwap 31 = .ok (.putfield 69, 3) := by decide +kernel
theorem d_Br_appendInverseSwap_34 : decode b_Br_appendInverseSwap 34 = .ok (.aload_n 0, 1) := by decide +kernel
theorem d_Br_appendInverseSwap_35 : decode b_Br_appendInverseSwap 35 = .ok (.getfield 66, 3) := by decide +kernel
theorem d_Br_appendInverseSwap_38 : decode b_Br_appendInverseSwap 38 = .ok (.bipush 8, 2) := by decide +kernel
theorem d_Br_appendInverseSwap_40 : decode b_Br_appendInverseSwap 40 = .ok (.imul, 1) := by decide +kernel
theorem d_Br_appendInverseSwap_41 : decode b_Br_appendInverseSwap 41 = .ok (.istore_n 2, 1) := by decide +kernel
theorem d_Br_appendInverseSwap_42 : decode b_Br_appendInverseSwap 42 = .ok (.iconst 0, 1) := by decide +kernel
theorem d_Br_appendInverseSwap_43 : decode b_Br_appendInverseSwap 43 = .ok (.istore_n 3, 1) := by decide +kernel
theorem d_Br_appendInverseSwap_44 : decode b_Br_appendInverseSwap 44 = .ok (.iload_n 3, 1) := by decide +kernel
theorem d_Br_appendInverseSwap_45 : decode b_Br_appendInverseSwap 45 = .ok (.aload_n 0, 1) := by decide +kernel
theorem d_Br_appendInverseSwap_46 : decode b_Br_appendInverseSwap 46 = .ok (.getfield 21, 3) := by decide +kernel
theorem d_Br_appendInverseSwap_49 : decode b_Br_appendInverseSwap 49 = .ok (.if_icmp .ge 25, 3) := by decide +kernel
theorem d_Br_appendInverseSwap_52 : decode b_Br_appendInverseSwap 52 = .ok (.aload_n 0, 1) := by decide +kernel
theorem d_Br_appendInverseSwap_53 : decode b_Br_appendInverseSwap 53 = .ok (.getfield 15, 3) := by decide +kernel
theorem d_Br_appendInverseSwap_56 : decode b_Br_appendInverseSwap 56 = .ok (.iload_n 2, 1) := by decide +kernel
theorem d_Br_appendInverseSwap_57 : decode b_Br_appendInverseSwap 57 = .ok (.iload_n 3, 1) := by decide +kernel
theorem d_Br_appendInverseSwap_58 : decode b_Br_appendInverseSwap 58 = .ok (.iadd, 1) := by decide +kernel
theorem d_Br_appendInverseSwap_59 : decode b_Br_appendInverseSwap 59 = .ok (.aload_n 0, 1) := by decide +kernel
theorem d_Br_appendInverseSwap_60 : decode b_Br_appendInverseSwap 60 = .ok (.getfield 21, 3) := by decide +kernel
theorem d_Br_appendInverseSwap_63 : decode b_Br_appendInverseSwap 63 = .ok (.iconst 1, 1) := by decide +kernel
theorem d_Br_appendInverseSwap_64 : decode b_Br_appendInverseSwap 64 = .ok (.isub, 1) := by decide +kernel
theorem d_Br_appendInverseSwap_65 : decode b_Br_appendInverseSwap 65 = .ok (.iload_n 3, 1) := by decide +kernel
theorem d_Br_appendInverseSwap_66 : decode b_Br_appendInverseSwap 66 = .ok (.isub, 1) := by decide +kernel
theorem d_Br_appendInverseSwap_67 : decode b_Br_appendInverseSwap 67 = .ok (.iastore, 1) := by decide +kernel
theorem d_Br_appendInverseSwap_68 : decode b_Br_appendInverseSwap 68 = .ok (.iinc 3 1, 3) := by decide +kernel
theorem d_Br_appendInverseSwap_71 : decode b_Br_appendInverseSwap 71 = .ok (.goto (-27), 3) := by decide +kernel
theorem d_Br_appendInverseSwap_74 : decode b_Br_appendInverseSwap 74 = .ok (.aload_n 0, 1) := by decide +kernel
theorem d_Br_appendInverseSwap_75 : decode b_Br_appendInverseSwap 75 = .ok (.getfield 15, 3) := by decide +kernel
theorem d_Br_appendInverseSwap_78 : decode b_Br_appendInverseSwap 78 = .ok (.iload_n 2, 1) := by decide +kernel
theorem d_Br_appendInverseSwap_79 : decode b_Br_appendInverseSwap 79 = .ok (.aload_n 0, 1) := by decide +kernel
theorem d_Br_appendInverseSwap_80 : decode b_Br_appendInverseSwap 80 = .ok (.getfield 21, 3) := by decide +kernel
theorem d_Br_appendInverseSwap_83 : decode b_Br_appendInverseSwap 83 = .ok (.iadd, 1) := by decide +kernel
theorem d_Br_appendInverseSwap_84 : decode b_Br_appendInverseSwap 84 = .ok (.iconst 1, 1) := by decide +kernel
theorem d_Br_appendInverseSwap_85 : decode b_Br_appendInverseSwap 85 = .ok (.isub, 1) := by decide +kernel
theorem d_Br_appendInverseSwap_86 : decode b_Br_appendInverseSwap 86 = .ok (.iload_n 1, 1) := by decide +kernel
theorem d_Br_appendInverseSwap_87 : decode b_Br_appendInverseSwap 87 = .ok (.isub, 1) := by decide +kernel
theorem d_Br_appendInverseSwap_88 : decode b_Br_appendInverseSwap 88 = .ok (.iload_n 1, 1) := by decide +kernel
theorem d_Br_appendInverseSwap_89 : decode b_Br_appendInverseSwap 89 = .ok (.iconst 1, 1) := by decide +kernel
theorem d_Br_appendInverseSwap_90 : decode b_Br_appendInverseSwap 90 = .ok (.iadd, 1) := by decide +kernel
theorem d_Br_appendInverseSwap_91 : decode b_Br_appendInverseSwap 91 = .ok (.iastore, 1) := by decide +kernel
theorem d_Br_appendInverseSwap_92 : decode b_Br_appendInverseSwap 92 = .ok (.aload_n 0, 1) := by decide +kernel
theorem d_Br_appendInverseSwap_93 : decode b_Br_appendInverseSwap 93 = .ok (.getfield 15, 3) := by decide +kernel
theorem d_Br_appendInverseSwap_96 : decode b_Br_appendInverseSwap 96 = .ok (.iload_n 2, 1) := by decide +kernel
theorem d_Br_appendInverseSwap_97 : decode b_Br_appendInverseSwap 97 = .ok (.aload_n 0, 1) := by decide +kernel
theorem d_Br_appendInverseSwap_98 : decode b_Br_appendInverseSwap 98 = .ok (.getfield 21, 3) := by decide +kernel
theorem d_Br_appendInverseSwap_101 : decode b_Br_appendInverseSwap 101 = .ok (.iadd, 1) := by decide +kernel
theorem d_Br_appendInverseSwap_102 : decode b_Br_appendInverseSwap 102 = .ok (.iconst 2, 1) := by decide +kernel
theorem d_Br_appendInverseSwap_103 : decode b_Br_appendInverseSwap 103 = .ok (.isub, 1) := by decide +kernel
theorem d_Br_appendInverseSwap_104 : decode b_Br_appendInverseSwap 104 = .ok (.iload_n 1, 1) := by decide +kernel
theorem d_Br_appendInverseSwap_105 : decode b_Br_appendInverseSwap 105 = .ok (.isub, 1) := by decide +kernel
theorem d_Br_appendInverseSwap_106 : decode b_Br_appendInverseSwap 106 = .ok (.iload_n 1, 1) := by decide +kernel
theorem d_Br_appendInverseSwap_107 : decode b_Br_appendInverseSwap 107 = .ok (.iastore, 1) := by decide +kernel
theorem d_Br_appendInverseSwap_108 : decode b_Br_appendInverseSwap 108 = .ok (.aload_n 0, 1) := by decide +kernel
theorem d_Br_appendInverseSwap_109 : decode b_Br_appendInverseSwap 109 = .ok (.dup, 1) := by decide +kernel
theorem d_Br_appendInverseSwap_110 : decode b_Br_appendInverseSwap 110 = .ok (.getfield 66, 3) := by decide +kernel
theorem d_Br_appendInverseSwap_113 : decode b_Br_appendInverseSwap 113 = .ok (.iconst 1, 1) := by decide +kernel
theorem d_Br_appendInverseSwap_114 : decode b_Br_appendInverseSwap 114 = .ok (.iadd, 1) := by decide +kernel
theorem d_Br_appendInverseSwap_115 : decode b_Br_appendInverseSwap 115 = .ok (.putfield 66, 3) := by decide +kernel
theorem d_Br_appendInverseSwap_118 : decode b_Br_appendInverseSwap 118 = .ok (.return_, 1) := by decide +kernel
theorem d_Br_appendSwap_0 : decode b_Br_appendSwap 0 = .ok (.aload_n 0, 1) := by decide +kernel
theorem d_Br_appendSwap_1 : decode b_Br_appendSwap 1 = .ok (.getfield 66, 3) := by decide +kernel
theorem d_Br_appendSwap_4 : decode b_Br_appendSwap 4 = .ok (.bipush 8, 2) := by decide +kernel
theorem d_Br_appendSwap_6 : decode b_Br_appendSwap 6 = .ok (.imul, 1) := by decide +kernel
theorem d_Br_appendSwap_7 : decode b_Br_appendSwap 7 = .ok (.istore_n 2, 1) := by decide +kernel
theorem d_Br_appendSwap_8 : decode b_Br_appendSwap 8 = .ok (.iconst 0, 1) := by decide +kernel
theorem d_Br_appendSwap_9 : decode b_Br_appendSwap 9 = .ok (.istore_n 3, 1) := by decide +kernel
theorem d_Br_appendSwap_10 : decode b_Br_appendSwap 10 = .ok (.iload_n 3, 1) := by decide +kernel
theorem d_Br_appendSwap_11 : decode b_Br_appendSwap 11 = .ok (.aload_n 0, 1) := by decide +kernel
theorem d_Br_appendSwap_12 : decode b_Br_appendSwap 12 = .ok (.getfield 21, 3) := by decide +kernel
theorem d_Br_appendSwap_15 : decode b_Br_appendSwap 15 = .ok (.if_icmp .ge 18, 3) := by decide +kernel
theorem d_Br_appendSwap_18 : decode b_Br_appendSwap 18 = .ok (.aload_n 0, 1) := by decide +kernel
theorem d_Br_appendSwap_19 : decode b_Br_appendSwap 19 = .ok (.getfield 15, 3) := by decide +kernel
theorem d_Br_appendSwap_22 : decode b_Br_appendSwap 22 = .ok (.iload_n 2, 1) := by decide +kernel
theorem d_Br_appendSwap_23 : decode b_Br_appendSwap 23 = .ok (.iload_n 3, 1) := by decide +kernel
theorem d_Br_appendSwap_24 : decode b_Br_appendSwap 24 = .ok (.iadd, 1) := by decide +kernel
theorem d_Br_appendSwap_25 : decode b_Br_appendSwap 25 = .ok (.iload_n 3, 1) := by decide +kernel
theorem d_Br_appendSwap_26 : decode b_Br_appendSwap 26 = .ok (.iastore, 1) := by decide +kernel
theorem d_Br_appendSwap_27 : decode b_Br_appendSwap 27 = .ok (.iinc 3 1, 3) := by decide +kernel
theorem d_Br_appendSwap_30 : decode b_Br_appendSwap 30 = .ok (.goto (-20), 3) := by decide +kernel
theorem d_Br_appendSwap_33 : decode b_Br_appendSwap 33 = .ok (.aload_n 0, 1) := by decide +kernel
theorem d_Br_appendSwap_34 : decode b_Br_appendSwap 34 = .ok (.getfield 15, 3) := by decide +kernel
theorem d_Br_appendSwap_37 : decode b_Br_appendSwap 37 = .ok (.iload_n 2, 1) := by decide +kernel
theorem d_Br_appendSwap_38 : decode b_Br_appendSwap 38 = .ok (.iload_n 1, 1) := by decide +kernel
theorem d_Br_appendSwap_39 : decode b_Br_appendSwap 39 = .ok (.iadd, 1) := by decide +kernel
theorem d_Br_appendSwap_40 : decode b_Br_appendSwap 40 = .ok (.iload_n 1, 1) := by decide +kernel
theorem d_Br_appendSwap_41 : decode b_Br_appendSwap 41 = .ok (.iconst 1, 1) := by decide +kernel
theorem d_Br_appendSwap_42 : decode b_Br_appendSwap 42 = .ok (.iadd, 1) := by decide +kernel
theorem d_Br_appendSwap_43 : decode b_Br_appendSwap 43 = .ok (.iastore, 1) := by decide +kernel
theorem d_Br_appendSwap_44 : decode b_Br_appendSwap 44 = .ok (.aload_n 0, 1) := by decide +kernel
theorem d_Br_appendSwap_45 : decode b_Br_appendSwap 45 = .ok (.getfield 15, 3) := by decide +kernel
theorem d_Br_appendSwap_48 : decode b_Br_appendSwap 48 = .ok (.iload_n 2, 1) := by decide +kernel
theorem d_Br_appendSwap_49 : decode b_Br_appendSwap 49 = .ok (.iload_n 1, 1) := by decide +kernel
theorem d_Br_appendSwap_50 : decode b_Br_appendSwap 50 = .ok (.iadd, 1) := by decide +kernel
theorem d_Br_appendSwap_51 : decode b_Br_appendSwap 51 = .ok (.iconst 1, 1) := by decide +kernel
theorem d_Br_appendSwap_52 : decode b_Br_appendSwap 52 = .ok (.iadd, 1) := by decide +kernel
theorem d_Br_appendSwap_53 : decode b_Br_appendSwap 53 = .ok (.iload_n 1, 1) := by decide +kernel
theorem d_Br_appendSwap_54 : decode b_Br_appendSwap 54 = .ok (.iastore, 1) := by decide +kernel
theorem d_Br_appendSwap_55 : decode b_Br_appendSwap 55 = .ok (.aload_n 0, 1) := by decide +kernel
theorem d_Br_appendSwap_56 : decode b_Br_appendSwap 56 = .ok (.dup, 1) := by decide +kernel
theorem d_Br_appendSwap_57 : decode b_Br_appendSwap 57 = .ok (.getfield 66, 3) := by decide +kernel
theorem d_Br_appendSwap_60 : decode b_Br_appendSwap 60 = .ok (.iconst 1, 1) := by decide +kernel
theorem d_Br_appendSwap_61 : decode b_Br_appendSwap 61 = .ok (.iadd, 1) := by decide +kernel
theorem d_Br_appendSwap_62 : decode b_Br_appendSwap 62 = .ok (.putfield 66, 3) := by decide +kernel
theorem d_Br_appendSwap_65 : decode b_Br_appendSwap 65 = .ok (.return_, 1) := by decide +kernel
theorem d_Br_close_0 : decode b_Br_close 0 = .ok (.aload_n 1, 1) := by decide +kernel
theorem d_Br_close_1 : decode b_Br_close 1 = .ok (.invokevirtual 47, 3) := by decide +kernel
theorem d_Br_close_4 : decode b_Br_close 4 = .ok (.iconst 0, 1) := by decide +kernel
theorem d_Br_close_5 : decode b_Br_close 5 = .ok (.istore_n 2, 1) := by decide +kernel
