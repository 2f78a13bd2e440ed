theorem d_En_move_209 : decode b_En_move 209 = .ok (.invokevirtual 276, 3) := by decide +kernel
theorem d_En_move_212 : decode b_En_move 212 = .ok (.ireturn, 1) := by decide +kernel
theorem d_En_move_213 : decode b_En_move 213 = .ok (.iconst 0, 1) := by decide +kernel
theorem d_En_move_214 : decode b_En_move 214 = .ok (.ireturn, 1) := by decide +kernel
theorem d_En_perform_0 : decode b_En_perform 0 = .ok (.iload_n 1, 1) := by decide +kernel
theorem d_En_perform_1 : decode b_En_perform 1 = .ok (.tableswitch 139 1 18 #[87, 92, 97, 139, 139, 139, 102, 139, 139, 139, 139, 139, 107, 120, 126, 132, 132, 132], 87) := by decide +kernel
theorem d_En_perform_88 : decode b_En_perform 88 = .ok (.aload_n 0, 1) := by decide +kernel
theorem d_En_perform_89 : decode b_En_perform 89 = .ok (.invokevirtual 210, 3) := by decide +kernel
theorem d_En_perform_92 : decode b_En_perform 92 = .ok (.ireturn, 1) := by decide +kernel
theorem d_En_perform_93 : decode b_En_perform 93 = .ok (.aload_n 0, 1) := by decide +kernel
theorem d_En_perform_94 : decode b_En_perform 94 = .ok (.invokevirtual 213, 3) := by decide +kernel
theorem d_En_perform_97 : decode b_En_perform 97 = .ok (.ireturn, 1) := by decide +kernel
theorem d_En_perform_98 : decode b_En_perform 98 = .ok (.aload_n 0, 1) := by decide +kernel
theorem d_En_perform_99 : decode b_En_perform 99 = .ok (.invokevirtual 216, 3) := by decide +kernel
theorem d_En_perform_102 : decode b_En_perform 102 = .ok (.ireturn, 1) := by decide +kernel
theorem d_En_perform_103 : decode b_En_perform 103 = .ok (.aload_n 0, 1) := by decide +kernel
theorem d_En_perform_104 : decode b_En_perform 104 = .ok (.invokevirtual 219, 3) := by decide +kernel
theorem d_En_perform_107 : decode b_En_perform 107 = .ok (.ireturn, 1) := by decide +kernel
theorem d_En_perform_108 : decode b_En_perform 108 = .ok (.aload_n 0, 1) := by decide +kernel
theorem d_En_perform_109 : decode b_En_perform 109 = .ok (.getfield 31, 3) := by decide +kernel
theorem d_En_perform_112 : decode b_En_perform 112 = .ok (.aload_n 0, 1) := by decide +kernel
theorem d_En_perform_113 : decode b_En_perform 113 = .ok (.getfield 66, 3) := by decide +kernel
theorem d_En_perform_116 : decode b_En_perform 116 = .ok (.invokevirtual 222, 3) := by decide +kernel
theorem d_En_perform_119 : decode b_En_perform 119 = .ok (.iconst 0, 1) := by decide +kernel
theorem d_En_perform_120 : decode b_En_perform 120 = .ok (.ireturn, 1) := by decide +kernel
theorem d_En_perform_121 : decode b_En_perform 121 = .ok (.aload_n 0, 1) := by decide +kernel
theorem d_En_perform_122 : decode b_En_perform 122 = .ok (.invokevirtual 226, 3) := by decide +kernel
theorem d_En_perform_125 : decode b_En_perform 125 = .ok (.iconst 0, 1) := by decide +kernel
theorem d_En_perform_126 : decode b_En_perform 126 = .ok (.ireturn, 1) := by decide +kernel
theorem d_En_perform_127 : decode b_En_perform 127 = .ok (.aload_n 0, 1) := by decide +kernel
theorem d_En_perform_128 : decode b_En_perform 128 = .ok (.invokevirtual 229, 3) := by decide +kernel
theorem d_En_perform_131 : decode b_En_perform 131 = .ok (.iconst 0, 1) := by decide +kernel
theorem d_En_perform_132 : decode b_En_perform 132 = .ok (.ireturn, 1) := by decide +kernel
theorem d_En_perform_133 : decode b_En_perform 133 = .ok (.aload_n 0, 1) := by decide +kernel
theorem d_En_perform_134 : decode b_En_perform 134 = .ok (.iload_n 1, 1) := by decide +kernel
theorem d_En_perform_135 : decode b_En_perform 135 = .ok (.invokevirtual 232, 3) := by decide +kernel
theorem d_En_perform_138 : decode b_En_perform 138 = .ok (.iconst 0, 1) := by decide +kernel
theorem d_En_perform_139 : decode b_En_perform 139 = .ok (.ireturn, 1) := by decide +kernel
theorem d_En_perform_140 : decode b_En_perform 140 = .ok (.aload_n 0, 1) := by decide +kernel
theorem d_En_perform_141 : decode b_En_perform 141 = .ok (.getfield 70, 3) := by decide +kernel
theorem d_En_perform_144 : decode b_En_perform 144 = .ok (.aload_n 0, 1) := by decide +kernel
theorem d_En_perform_145 : decode b_En_perform 145 = .ok (.getfield 66, 3) := by decide +kernel
theorem d_En_perform_148 : decode b_En_perform 148 = .ok (.invokevirtual 235, 3) := by decide +kernel
theorem d_En_perform_151 : decode b_En_perform 151 = .ok (.aload_n 0, 1) := by decide +kernel
theorem d_En_perform_152 : decode b_En_perform 152 = .ok (.iload_n 1, 1) := by decide +kernel
theorem d_En_perform_153 : decode b_En_perform 153 = .ok (.invokevirtual 238, 3) := by decide +kernel
theorem d_En_perform_156 : decode b_En_perform 156 = .ok (.istore_n 2, 1) := by decide +kernel
theorem d_En_perform_157 : decode b_En_perform 157 = .ok (.aload_n 0, 1) := by decide +kernel
theorem d_En_perform_158 : decode b_En_perform 158 = .ok (.getfield 31, 3) := by decide +kernel
theorem d_En_perform_161 : decode b_En_perform 161 = .ok (.iload_n 2, 1) := by decide +kernel
theorem d_En_perform_162 : decode b_En_perform 162 = .ok (.ifCond .eq 8, 3) := by decide +kernel
theorem d_En_perform_165 : decode b_En_perform 165 = .ok (.ldc 241, 2) := by decide +kernel
theorem d_En_perform_167 : decode b_En_perform 167 = .ok (.goto 5, 3) := by decide +kernel
theorem d_En_perform_170 : decode b_En_perform 170 = .ok (.ldc 243, 2) := by decide +kernel
theorem d_En_perform_172 : decode b_En_perform 172 = .ok (.invokevirtual 245, 3) := by decide +kernel
theorem d_En_perform_175 : decode b_En_perform 175 = .ok (.iload_n 2, 1) := by decide +kernel
theorem d_En_perform_176 : decode b_En_perform 176 = .ok (.ireturn, 1) := by decide +kernel
theorem d_En_printCount_0 : decode b_En_printCount 0 = .ok (.aload_n 0, 1) := by decide +kernel
theorem d_En_printCount_1 : decode b_En_printCount 1 = .ok (.getfield 66, 3) := by decide +kernel
theorem d_En_printCount_4 : decode b_En_printCount 4 = .ok (.invokevirtual 166, 3) := by decide +kernel
theorem d_En_printCount_7 : decode b_En_printCount 7 = .ok (.astore_n 1, 1) := by decide +kernel
theorem d_En_printCount_8 : decode b_En_printCount 8 = .ok (.aload_n 0, 1) := by decide +kernel
theorem d_En_printCount_9 : decode b_En_printCount 9 = .ok (.getfield 31, 3) := by decide +kernel
theorem d_En_printCount_12 : decode b_En_printCount 12 = .ok (.ldc_w 321, 3) := by decide +kernel
theorem d_En_printCount_15 : decode b_En_printCount 15 = .ok (.invokevirtual 290, 3) := by decide +kernel
theorem d_En_printCount_18 : decode b_En_printCount 18 = .ok (.aload_n 0, 1) := by decide +kernel
theorem d_En_printCount_19 : decode b_En_printCount 19 = .ok (.getfield 31, 3) := by decide +kernel
theorem d_En_printCount_22 : decode b_En_printCount 22 = .ok (.aload_n 0, 1) := by decide +kernel
theorem d_En_printCount_23 : decode b_En_printCount 23 = .ok (.getfield 66, 3) := by decide +kernel
theorem d_En_printCount_26 : decode b_En_printCount 26 = .ok (.getfield 157, 3) := by decide +kernel
theorem d_En_printCount_29 : decode b_En_printCount 29 = .ok (.i2l, 1) := by decide +kernel
theorem d_En_printCount_30 : decode b_En_printCount 30 = .ok (.invokevirtual 293, 3) := by decide +kernel
theorem d_En_printCount_33 : decode b_En_printCount 33 = .ok (.aload_n 0, 1) := by decide +kernel
theorem d_En_printCount_34 : decode b_En_printCount 34 = .ok (.getfield 31, 3) := by decide +kernel
theorem d_En_printCount_37 : decode b_En_printCount 37 = .ok (.aload_n 0, 1) := by decide +kernel
theorem d_En_printCount_38 : decode b_En_printCount 38 = .ok (.getfield 66, 3) := by decide +kernel
theorem d_En_printCount_41 : decode b_En_printCount 41 = .ok (.getfield 160, 3) := by decide +kernel
theorem d_En_printCount_44 : decode b_En_printCount 44 = .ok (.i2l, 1) := by decide +kernel
theorem d_En_printCount_45 : decode b_En_printCount 45 = .ok (.invokevirtual 293, 3) := by decide +kernel
theorem d_En_printCount_48 : decode b_En_printCount 48 = .ok (.aload_n 0, 1) := by decide +kernel
theorem d_En_printCount_49 : decode b_En_printCount 49 = .ok (.getfield 31, 3) := by decide +kernel
theorem d_En_printCount_52 : decode b_En_printCount 52 = .ok (.aload_n 1, 1) := by decide +kernel
theorem d_En_printCount_53 : decode b_En_printCount 53 = .ok (.getfield 170, 3) := by decide +kernel
theorem d_En_printCount_56 : decode b_En_printCount 56 = .ok (.aload_n 0, 1) := by decide +kernel
theorem d_En_printCount_57 : decode b_En_printCount 57 = .ok (.getfield 66, 3) := by decide +kernel
theorem d_En_printCount_60 : decode b_En_printCount 60 = .ok (.getfield 160, 3) := by decide +kernel
theorem d_En_printCount_63 : decode b_En_printCount 63 = .ok (.iadd, 1) := by decide +kernel
theorem d_En_printCount_64 : decode b_En_printCount 64 = .ok (.i2l, 1) := by decide +kernel
theorem d_En_printCount_65 : decode b_En_printCount 65 = .ok (.invokevirtual 293, 3) := by decide +kernel
theorem d_En_printCount_68 : decode b_En_printCount 68 = .ok (.aload_n 0, 1) := by decide +kernel
theorem d_En_printCount_69 : decode b_En_printCount 69 = .ok (.getfield 31, 3) := by decide +kernel
theorem d_En_printCount_72 : decode b_En_printCount 72 = .ok (.aload_n 1, 1) := by decide +kernel
theorem d_En_printCount_73 : decode b_En_printCount 73 = .ok (.getfield 323, 3) := by decide +kernel
theorem d_En_printCount_76 : decode b_En_printCount 76 = .ok (.aload_n 0, 1) := by decide +kernel
theorem d_En_printCount_77 : decode b_En_printCount 77 = .ok (.getfield 66, 3) := by decide +kernel
theorem d_En_printCount_80 : decode b_En_printCount 80 = .ok (.getfield 160, 3) := by decide +kernel
theorem d_En_printCount_83 : decode b_En_printCount 83 = .ok (.iadd, 1) := by decide +kernel
theorem d_En_printCount_84 : decode b_En_printCount 84 = .ok (.i2l, 1) := by decide +kernel
theorem d_En_printCount_85 : decode b_En_printCount 85 = .ok (.invokevirtual 293, 3) := by decide +kernel
theorem d_En_printCount_88 : decode b_En_printCount 88 = .ok (.aload_n 0, 1) := by decide +kernel
theorem d_En_printCount_89 : decode b_En_printCount 89 = .ok (.getfield 31, 3) := by decide +kernel
theorem d_En_printCount_92 : decode b_En_printCount 92 = .ok (.aload_n 1, 1) := by decide +kernel
theorem d_En_printCount_93 : decode b_En_printCount 93 = .ok (.getfield 316, 3) := by decide +kernel
theorem d_En_printCount_96 : decode b_En_printCount 96 = .ok (.i2l, 1) := by decide +kernel
theorem d_En_printCount_97 : decode b_En_printCount 97 = .ok (.invokevirtual 293, 3) := by decide +kernel
theorem d_En_printCount_100 : decode b_En_printCount 100 = .ok (.aload_n 0, 1) := by decide +kernel
theorem d_En_printCount_101 : decode b_En_printCount 101 = .ok (.getfield 31, 3) := by decide +kernel
theorem d_En_printCount_104 : decode b_En_printCount 104 = .ok (.aload_n 1, 1) := by decide +kernel
theorem d_En_printCount_105 : decode b_En_printCount 105 = .ok (.invokevirtual 326, 3) := by decide +kernel
theorem d_En_printCount_108 : decode b_En_printCount 108 = .ok (.aload_n 0, 1) := by decide +kernel
theorem d_En_printCount_109 : decode b_En_printCount 109 = .ok (.getfield 66, 3) := by decide +kernel
theorem d_En_printCount_112 : decode b_En_printCount 112 = .ok (.getfield 160, 3) := by decide +kernel
theorem d_En_printCount_115 : decode b_En_printCount 115 = .ok (.iadd, 1) := by decide +kernel
theorem d_En_printCount_116 : decode b_En_printCount 116 = .ok (.i2l, 1) := by decide +kernel
theorem d_En_printCount_117 : decode b_En_printCount 117 = .ok (.invokevirtual 293, 3) := by decide +kernel
theorem d_En_printCount_120 : decode b_En_printCount 120 = .ok (.aload_n 0, 1) := by decide +kernel
theorem d_En_printCount_121 : decode b_En_printCount 121 = .ok (.getfield 31, 3) := by decide +kernel
theorem d_En_printCount_124 : decode b_En_printCount 124 = .ok (.aload_n 1, 1) := by decide +kernel
theorem d_En_printCount_125 : decode b_En_printCount 125 = .ok (.aload_n 0, 1) := by decide +kernel
theorem d_En_printCount_126 : decode b_En_printCount 126 = .ok (.getfield 66, 3) := by decide +kernel
theorem d_En_printCount_129 : decode b_En_printCount 129 = .ok (.invokevirtual 329, 3) := by decide +kernel
theorem d_En_printCount_132 : decode b_En_printCount 132 = .ok (.aload_n 0, 1) := by decide +kernel
theorem d_En_printCount_133 : decode b_En_printCount 133 = .ok (.getfield 66, 3) := by decide +kernel
theorem d_En_printCount_136 : decode b_En_printCount 136 = .ok (.getfield 160, 3) := by decide +kernel
theorem d_En_printCount_139 : decode b_En_printCount 139 = .ok (.iadd, 1) := by decide +kernel
theorem d_En_printCount_140 : decode b_En_printCount 140 = .ok (.i2l, 1) := by decide +kernel
theorem d_En_printCount_141 : decode b_En_printCount 141 = .ok (.invokevirtual 293, 3) := by decide +kernel
theorem d_En_printCount_144 : decode b_En_printCount 144 = .ok (.aload_n 0, 1) := by decide +kernel
theorem d_En_printCount_145 : decode b_En_printCount 145 = .ok (.getfield 31, 3) := by decide +kernel
theorem d_En_printCount_148 : decode b_En_printCount 148 = .ok (.aload_n 0, 1) := by decide +kernel
theorem d_En_printCount_149 : decode b_En_printCount 149 = .ok (.getfield 66, 3) := by decide +kernel
theorem d_En_printCount_152 : decode b_En_printCount 152 = .ok (.invokevirtual 163, 3) := by decide +kernel
theorem d_En_printCount_155 : decode b_En_printCount 155 = .ok (.i2l, 1) := by decide +kernel
theorem d_En_printCount_156 : decode b_En_printCount 156 = .ok (.invokevirtual 293, 3) := by decide +kernel
theorem d_En_printCount_159 : decode b_En_printCount 159 = .ok (.aload_n 0, 1) := by decide +kernel
theorem d_En_printCount_160 : decode b_En_printCount 160 = .ok (.getfield 31, 3) := by decide +kernel
theorem d_En_printCount_163 : decode b_En_printCount 163 = .ok (.aload_n 1, 1) := by decide +kernel
theorem d_En_printCount_164 : decode b_En_printCount 164 = .ok (.invokevirtual 333, 3) := by decide +kernel
theorem d_En_printCount_167 : decode b_En_printCount 167 = .ok (.ifCond .eq 7, 3) := by decide +kernel
theorem d_En_printCount_170 : decode b_En_printCount 170 = .ok (.lconst 1, 1) := by decide +kernel
theorem d_En_printCount_171 : decode b_En_printCount 171 = .ok (.goto 4, 3) := by decide +kernel
theorem d_En_printCount_174 : decode b_En_printCount 174 = .ok (.lconst 0, 1) := by decide +kernel
theorem d_En_printCount_175 : decode b_En_printCount 175 = .ok (.invokevirtual 293, 3) := by decide +kernel
theorem d_En_printCount_178 : decode b_En_printCount 178 = .ok (.aload_n 0, 1) := by decide +kernel
theorem d_En_printCount_179 : decode b_En_printCount 179 = .ok (.getfield 31, 3) := by decide +kernel
theorem d_En_printCount_182 : decode b_En_printCount 182 = .ok (.invokevirtual 300, 3) := by decide +kernel
theorem d_En_printCount_185 : decode b_En_printCount 185 = .ok (.return_, 1) := by decide +kernel
theorem d_En_printFaces_0 : decode b_En_printFaces 0 = .ok (.aload_n 0, 1) := by decide +kernel
theorem d_En_printFaces_1 : decode b_En_printFaces 1 = .ok (.getfield 66, 3) := by decide +kernel
theorem d_En_printFaces_4 : decode b_En_printFaces 4 = .ok (.invokevirtual 166, 3) := by decide +kernel
theorem d_En_printFaces_7 : decode b_En_printFaces 7 = .ok (.astore_n 1, 1) := by decide +kernel
theorem d_En_printFaces_8 : decode b_En_printFaces 8 = .ok (.aload_n 0, 1) := by decide +kernel
theorem d_En_printFaces_9 : decode b_En_printFaces 9 = .ok (.getfield 31, 3) := by decide +kernel
theorem d_En_printFaces_12 : decode b_En_printFaces 12 = .ok (.ldc_w 321, 3) := by decide +kernel
theorem d_En_printFaces_15 : decode b_En_printFaces 15 = .ok (.invokevirtual 290, 3) := by decide +kernel
theorem d_En_printFaces_18 : decode b_En_printFaces 18 = .ok (.aload_n 0, 1) := by decide +kernel
theorem d_En_printFaces_19 : decode b_En_printFaces 19 = .ok (.getfield 31, 3) := by decide +kernel
theorem d_En_printFaces_22 : decode b_En_printFaces 22 = .ok (.aload_n 1, 1) := by decide +kernel
theorem d_En_printFaces_23 : decode b_En_printFaces 23 = .ok (.getfield 316, 3) := by decide +kernel
theorem d_En_printFaces_26 : decode b_En_printFaces 26 = .ok (.i2l, 1) := by decide +kernel
theorem d_En_printFaces_27 : decode b_En_printFaces 27 = .ok (.invokevirtual 293, 3) := by decide +kernel
theorem d_En_printFaces_30 : decode b_En_printFaces 30 = .ok (.aload_n 0, 1) := by decide +kernel
theorem d_En_printFaces_31 : decode b_En_printFaces 31 = .ok (.getfield 31, 3) := by decide +kernel
theorem d_En_printFaces_34 : decode b_En_printFaces 34 = .ok (.invokevirtual 300, 3) := by decide +kernel
theorem d_En_printFaces_37 : decode b_En_printFaces 37 = .ok (.iconst 0, 1) := by decide +kernel
theorem d_En_printFaces_38 : decode b_En_printFaces 38 = .ok (.istore_n 2, 1) := by decide +kernel
theorem d_En_printFaces_39 : decode b_En_printFaces 39 = .ok (.iload_n 2, 1) := by decide +kernel
theorem d_En_printFaces_40 : decode b_En_printFaces 40 = .ok (.aload_n 1, 1) := by decide +kernel
theorem d_En_printFaces_41 : decode b_En_printFaces 41 = .ok (.getfield 316, 3) := by decide +kernel
theorem d_En_printFaces_44 : decode b_En_printFaces 44 = .ok (.if_icmp .ge 94, 3) := by decide +kernel
theorem d_En_printFaces_47 : decode b_En_printFaces 47 = .ok (.aload_n 0, 1) := by decide +kernel
theorem d_En_printFaces_48 : decode b_En_printFaces 48 = .ok (.getfield 31, 3) := by decide +kernel
theorem d_En_printFaces_51 : decode b_En_printFaces 51 = .ok (.ldc_w 321, 3) := by decide +kernel
theorem d_En_printFaces_54 : decode b_En_printFaces 54 = .ok (.invokevirtual 290, 3) := by decide +kernel
theorem d_En_printFaces_57 : decode b_En_printFaces 57 = .ok (.aload_n 0, 1) := by decide +kernel
theorem d_En_printFaces_58 : decode b_En_printFaces 58 = .ok (.getfield 31, 3) := by decide +kernel
theorem d_En_printFaces_61 : decode b_En_printFaces 61 = .ok (.iload_n 2, 1) := by decide +kernel
theorem d_En_printFaces_62 : decode b_En_printFaces 62 = .ok (.i2l, 1) := by decide +kernel
theorem d_En_printFaces_63 : decode b_En_printFaces 63 = .ok (.invokevirtual 293, 3) := by decide +kernel
theorem d_En_printFaces_66 : decode b_En_printFaces 66 = .ok (.aload_n 0, 1) := by decide +kernel
theorem d_En_printFaces_67 : decode b_En_printFaces 67 = .ok (.getfield 31, 3) := by decide +kernel
theorem d_En_printFaces_70 : decode b_En_printFaces 70 = .ok (.aload_n 1, 1) := by decide +kernel
theorem d_En_printFaces_71 : decode b_En_printFaces 71 = .ok (.iload_n 2, 1) := by decide +kernel
theorem d_En_printFaces_72 : decode b_En_printFaces 72 = .ok (.invokevirtual 336, 3) := by decide +kernel
theorem d_En_printFaces_75 : decode b_En_printFaces 75 = .ok (.i2l, 1) := by decide +kernel
theorem d_En_printFaces_76 : decode b_En_printFaces 76 = .ok (.invokevirtual 293, 3) := by decide +kernel
theorem d_En_printFaces_79 : decode b_En_printFaces 79 = .ok (.aload_n 1, 1) := by decide +kernel
theorem d_En_printFaces_80 : decode b_En_printFaces 80 = .ok (.getfield 339, 3) := by decide +kernel
theorem d_En_printFaces_83 : decode b_En_printFaces 83 = .ok (.iload_n 2, 1) := by decide +kernel
theorem d_En_printFaces_84 : decode b_En_printFaces 84 = .ok (.iaload, 1) := by decide +kernel
theorem d_En_printFaces_85 : decode b_En_printFaces 85 = .ok (.istore_n 3, 1) := by decide +kernel
theorem d_En_printFaces_86 : decode b_En_printFaces 86 = .ok (.iconst 0, 1) := by decide +kernel
theorem d_En_printFaces_87 : decode b_En_printFaces 87 = .ok (.istore 4, 2) := by decide +kernel
theorem d_En_printFaces_89 : decode b_En_printFaces 89 = .ok (.iload 4, 2) := by decide +kernel
theorem d_En_printFaces_91 : decode b_En_printFaces 91 = .ok (.aload_n 1, 1) := by decide +kernel
theorem d_En_printFaces_92 : decode b_En_printFaces 92 = .ok (.getfield 342, 3) := by decide +kernel
theorem d_En_printFaces_95 : decode b_En_printFaces 95 = .ok (.iload_n 2, 1) := by decide +kernel
theorem d_En_printFaces_96 : decode b_En_printFaces 96 = .ok (.iaload, 1) := by decide +kernel
theorem d_En_printFaces_97 : decode b_En_printFaces 97 = .ok (.if_icmp .ge 28, 3) := by decide +kernel
theorem d_En_printFaces_100 : decode b_En_printFaces 100 = .ok (.aload_n 0, 1) := by decide +kernel
