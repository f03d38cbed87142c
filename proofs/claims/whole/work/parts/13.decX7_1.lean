theorem dX7_family_233 : decode cX7_family 233 = .ok (.goto 21, 3) := by decide +kernel
theorem dX7_family_236 : decode cX7_family 236 = .ok (.iconst 0, 1) := by decide +kernel
theorem dX7_family_237 : decode cX7_family 237 = .ok (.istore_n 3, 1) := by decide +kernel
theorem dX7_family_238 : decode cX7_family 238 = .ok (.iload_n 3, 1) := by decide +kernel
theorem dX7_family_239 : decode cX7_family 239 = .ok (.iload_n 2, 1) := by decide +kernel
theorem dX7_family_240 : decode cX7_family 240 = .ok (.if_icmp .ge 14, 3) := by decide +kernel
theorem dX7_family_243 : decode cX7_family 243 = .ok (.aload_n 0, 1) := by decide +kernel
theorem dX7_family_244 : decode cX7_family 244 = .ok (.iload_n 3, 1) := by decide +kernel
theorem dX7_family_245 : decode cX7_family 245 = .ok (.invokevirtual 109, 3) := by decide +kernel
theorem dX7_family_248 : decode cX7_family 248 = .ok (.iinc 3 1, 3) := by decide +kernel
theorem dX7_family_251 : decode cX7_family 251 = .ok (.goto (-13), 3) := by decide +kernel
theorem dX7_family_254 : decode cX7_family 254 = .ok (.return_, 1) := by decide +kernel
theorem dX7_draw_0 : decode cX7_draw 0 = .ok (.iload_n 1, 1) := by decide +kernel
theorem dX7_draw_1 : decode cX7_draw 1 = .ok (.i2l, 1) := by decide +kernel
theorem dX7_draw_2 : decode cX7_draw 2 = .ok (.lconst 0, 1) := by decide +kernel
theorem dX7_draw_3 : decode cX7_draw 3 = .ok (.ldc2_w 112, 3) := by decide +kernel
theorem dX7_draw_6 : decode cX7_draw 6 = .ok (.invokestatic 74, 3) := by decide +kernel
theorem dX7_draw_9 : decode cX7_draw 9 = .ok (.ifCond .eq 15, 3) := by decide +kernel
theorem dX7_draw_12 : decode cX7_draw 12 = .ok (.iload_n 2, 1) := by decide +kernel
theorem dX7_draw_13 : decode cX7_draw 13 = .ok (.i2l, 1) := by decide +kernel
theorem dX7_draw_14 : decode cX7_draw 14 = .ok (.lconst 0, 1) := by decide +kernel
theorem dX7_draw_15 : decode cX7_draw 15 = .ok (.ldc2_w 114, 3) := by decide +kernel
theorem dX7_draw_18 : decode cX7_draw 18 = .ok (.invokestatic 74, 3) := by decide +kernel
theorem dX7_draw_21 : decode cX7_draw 21 = .ok (.ifCond .ne 6, 3) := by decide +kernel
theorem dX7_draw_24 : decode cX7_draw 24 = .ok (.bipush (-2), 2) := by decide +kernel
theorem dX7_draw_26 : decode cX7_draw 26 = .ok (.ireturn, 1) := by decide +kernel
theorem dX7_draw_27 : decode cX7_draw 27 = .ok (.aload_n 0, 1) := by decide +kernel
theorem dX7_draw_28 : decode cX7_draw 28 = .ok (.iconst 0, 1) := by decide +kernel
theorem dX7_draw_29 : decode cX7_draw 29 = .ok (.putfield 78, 3) := by decide +kernel
theorem dX7_draw_32 : decode cX7_draw 32 = .ok (.iload_n 1, 1) := by decide +kernel
theorem dX7_draw_33 : decode cX7_draw 33 = .ok (.iconst 3, 1) := by decide +kernel
theorem dX7_draw_34 : decode cX7_draw 34 = .ok (.if_icmp .ne 13, 3) := by decide +kernel
theorem dX7_draw_37 : decode cX7_draw 37 = .ok (.aload_n 0, 1) := by decide +kernel
theorem dX7_draw_38 : decode cX7_draw 38 = .ok (.iload_n 2, 1) := by decide +kernel
theorem dX7_draw_39 : decode cX7_draw 39 = .ok (.invokevirtual 116, 3) := by decide +kernel
theorem dX7_draw_42 : decode cX7_draw 42 = .ok (.aload_n 0, 1) := by decide +kernel
theorem dX7_draw_43 : decode cX7_draw 43 = .ok (.getfield 78, 3) := by decide +kernel
theorem dX7_draw_46 : decode cX7_draw 46 = .ok (.ireturn, 1) := by decide +kernel
theorem dX7_draw_47 : decode cX7_draw 47 = .ok (.aload_n 0, 1) := by decide +kernel
theorem dX7_draw_48 : decode cX7_draw 48 = .ok (.bipush 80, 2) := by decide +kernel
theorem dX7_draw_50 : decode cX7_draw 50 = .ok (.bipush 75, 2) := by decide +kernel
theorem dX7_draw_52 : decode cX7_draw 52 = .ok (.invokevirtual 95, 3) := by decide +kernel
theorem dX7_draw_55 : decode cX7_draw 55 = .ok (.iload_n 1, 1) := by decide +kernel
theorem dX7_draw_56 : decode cX7_draw 56 = .ok (.ifCond .ne 38, 3) := by decide +kernel
theorem dX7_draw_59 : decode cX7_draw 59 = .ok (.aload_n 0, 1) := by decide +kernel
theorem dX7_draw_60 : decode cX7_draw 60 = .ok (.iconst 1, 1) := by decide +kernel
theorem dX7_draw_61 : decode cX7_draw 61 = .ok (.sipush 255, 3) := by decide +kernel
theorem dX7_draw_64 : decode cX7_draw 64 = .ok (.invokevirtual 95, 3) := by decide +kernel
theorem dX7_draw_67 : decode cX7_draw 67 = .ok (.iconst 0, 1) := by decide +kernel
theorem dX7_draw_68 : decode cX7_draw 68 = .ok (.istore_n 3, 1) := by decide +kernel
theorem dX7_draw_69 : decode cX7_draw 69 = .ok (.iload_n 3, 1) := by decide +kernel
theorem dX7_draw_70 : decode cX7_draw 70 = .ok (.iload_n 2, 1) := by decide +kernel
theorem dX7_draw_71 : decode cX7_draw 71 = .ok (.if_icmp .ge 20, 3) := by decide +kernel
theorem dX7_draw_74 : decode cX7_draw 74 = .ok (.aload_n 0, 1) := by decide +kernel
theorem dX7_draw_75 : decode cX7_draw 75 = .ok (.aload_n 0, 1) := by decide +kernel
theorem dX7_draw_76 : decode cX7_draw 76 = .ok (.sipush 256, 3) := by decide +kernel
theorem dX7_draw_79 : decode cX7_draw 79 = .ok (.invokevirtual 99, 3) := by decide +kernel
theorem dX7_draw_82 : decode cX7_draw 82 = .ok (.invokevirtual 83, 3) := by decide +kernel
theorem dX7_draw_85 : decode cX7_draw 85 = .ok (.iinc 3 1, 3) := by decide +kernel
theorem dX7_draw_88 : decode cX7_draw 88 = .ok (.goto (-19), 3) := by decide +kernel
theorem dX7_draw_91 : decode cX7_draw 91 = .ok (.goto 9, 3) := by decide +kernel
theorem dX7_draw_94 : decode cX7_draw 94 = .ok (.aload_n 0, 1) := by decide +kernel
theorem dX7_draw_95 : decode cX7_draw 95 = .ok (.iload_n 1, 1) := by decide +kernel
theorem dX7_draw_96 : decode cX7_draw 96 = .ok (.iload_n 2, 1) := by decide +kernel
theorem dX7_draw_97 : decode cX7_draw 97 = .ok (.invokevirtual 119, 3) := by decide +kernel
theorem dX7_draw_100 : decode cX7_draw 100 = .ok (.aload_n 0, 1) := by decide +kernel
theorem dX7_draw_101 : decode cX7_draw 101 = .ok (.iconst 0, 1) := by decide +kernel
theorem dX7_draw_102 : decode cX7_draw 102 = .ok (.invokevirtual 106, 3) := by decide +kernel
theorem dX7_draw_105 : decode cX7_draw 105 = .ok (.iload_n 1, 1) := by decide +kernel
theorem dX7_draw_106 : decode cX7_draw 106 = .ok (.bipush 7, 2) := by decide +kernel
theorem dX7_draw_108 : decode cX7_draw 108 = .ok (.if_icmp .ne 19, 3) := by decide +kernel
theorem dX7_draw_111 : decode cX7_draw 111 = .ok (.aload_n 0, 1) := by decide +kernel
theorem dX7_draw_112 : decode cX7_draw 112 = .ok (.dup, 1) := by decide +kernel
theorem dX7_draw_113 : decode cX7_draw 113 = .ok (.getfield 78, 3) := by decide +kernel
theorem dX7_draw_116 : decode cX7_draw 116 = .ok (.iconst 1, 1) := by decide +kernel
theorem dX7_draw_117 : decode cX7_draw 117 = .ok (.aload_n 0, 1) := by decide +kernel
theorem dX7_draw_118 : decode cX7_draw 118 = .ok (.iconst 4, 1) := by decide +kernel
theorem dX7_draw_119 : decode cX7_draw 119 = .ok (.invokevirtual 99, 3) := by decide +kernel
theorem dX7_draw_122 : decode cX7_draw 122 = .ok (.iadd, 1) := by decide +kernel
theorem dX7_draw_123 : decode cX7_draw 123 = .ok (.isub, 1) := by decide +kernel
theorem dX7_draw_124 : decode cX7_draw 124 = .ok (.putfield 78, 3) := by decide +kernel
theorem dX7_draw_127 : decode cX7_draw 127 = .ok (.iload_n 1, 1) := by decide +kernel
theorem dX7_draw_128 : decode cX7_draw 128 = .ok (.bipush 8, 2) := by decide +kernel
theorem dX7_draw_130 : decode cX7_draw 130 = .ok (.if_icmp .ne 31, 3) := by decide +kernel
theorem dX7_draw_133 : decode cX7_draw 133 = .ok (.aload_n 0, 1) := by decide +kernel
theorem dX7_draw_134 : decode cX7_draw 134 = .ok (.getfield 7, 3) := by decide +kernel
theorem dX7_draw_137 : decode cX7_draw 137 = .ok (.aload_n 0, 1) := by decide +kernel
theorem dX7_draw_138 : decode cX7_draw 138 = .ok (.getfield 78, 3) := by decide +kernel
theorem dX7_draw_141 : decode cX7_draw 141 = .ok (.iconst 1, 1) := by decide +kernel
theorem dX7_draw_142 : decode cX7_draw 142 = .ok (.isub, 1) := by decide +kernel
theorem dX7_draw_143 : decode cX7_draw 143 = .ok (.aload_n 0, 1) := by decide +kernel
theorem dX7_draw_144 : decode cX7_draw 144 = .ok (.getfield 7, 3) := by decide +kernel
theorem dX7_draw_147 : decode cX7_draw 147 = .ok (.aload_n 0, 1) := by decide +kernel
theorem dX7_draw_148 : decode cX7_draw 148 = .ok (.getfield 78, 3) := by decide +kernel
theorem dX7_draw_151 : decode cX7_draw 151 = .ok (.iconst 1, 1) := by decide +kernel
theorem dX7_draw_152 : decode cX7_draw 152 = .ok (.isub, 1) := by decide +kernel
theorem dX7_draw_153 : decode cX7_draw 153 = .ok (.iaload, 1) := by decide +kernel
theorem dX7_draw_154 : decode cX7_draw 154 = .ok (.iconst 1, 1) := by decide +kernel
theorem dX7_draw_155 : decode cX7_draw 155 = .ok (.iadd, 1) := by decide +kernel
theorem dX7_draw_156 : decode cX7_draw 156 = .ok (.sipush 255, 3) := by decide +kernel
theorem dX7_draw_159 : decode cX7_draw 159 = .ok (.iand, 1) := by decide +kernel
theorem dX7_draw_160 : decode cX7_draw 160 = .ok (.iastore, 1) := by decide +kernel
theorem dX7_draw_161 : decode cX7_draw 161 = .ok (.aload_n 0, 1) := by decide +kernel
theorem dX7_draw_162 : decode cX7_draw 162 = .ok (.getfield 78, 3) := by decide +kernel
theorem dX7_draw_165 : decode cX7_draw 165 = .ok (.ireturn, 1) := by decide +kernel
theorem dX7_fails_0 : decode cX7_fails 0 = .ok (.aload_n 0, 1) := by decide +kernel
theorem dX7_fails_1 : decode cX7_fails 1 = .ok (.iload_n 1, 1) := by decide +kernel
theorem dX7_fails_2 : decode cX7_fails 2 = .ok (.putfield 122, 3) := by decide +kernel
theorem dX7_fails_5 : decode cX7_fails 5 = .ok (.aload_n 0, 1) := by decide +kernel
theorem dX7_fails_6 : decode cX7_fails 6 = .ok (.iload_n 2, 1) := by decide +kernel
theorem dX7_fails_7 : decode cX7_fails 7 = .ok (.putfield 16, 3) := by decide +kernel
theorem dX7_fails_10 : decode cX7_fails 10 = .ok (.return_, 1) := by decide +kernel
theorem dX7_begins_0 : decode cX7_begins 0 = .ok (.aload_n 0, 1) := by decide +kernel
theorem dX7_begins_1 : decode cX7_begins 1 = .ok (.getfield 125, 3) := by decide +kernel
theorem dX7_begins_4 : decode cX7_begins 4 = .ok (.iconst 4, 1) := by decide +kernel
theorem dX7_begins_5 : decode cX7_begins 5 = .ok (.iadd, 1) := by decide +kernel
theorem dX7_begins_6 : decode cX7_begins 6 = .ok (.aload_n 0, 1) := by decide +kernel
theorem dX7_begins_7 : decode cX7_begins 7 = .ok (.getfield 128, 3) := by decide +kernel
theorem dX7_begins_10 : decode cX7_begins 10 = .ok (.if_icmp .le 11, 3) := by decide +kernel
theorem dX7_begins_13 : decode cX7_begins 13 = .ok (.aload_n 0, 1) := by decide +kernel
theorem dX7_begins_14 : decode cX7_begins 14 = .ok (.bipush 12, 2) := by decide +kernel
theorem dX7_begins_16 : decode cX7_begins 16 = .ok (.iload_n 1, 1) := by decide +kernel
theorem dX7_begins_17 : decode cX7_begins 17 = .ok (.invokevirtual 131, 3) := by decide +kernel
theorem dX7_begins_20 : decode cX7_begins 20 = .ok (.return_, 1) := by decide +kernel
theorem dX7_begins_21 : decode cX7_begins 21 = .ok (.aload_n 0, 1) := by decide +kernel
theorem dX7_begins_22 : decode cX7_begins 22 = .ok (.dup, 1) := by decide +kernel
theorem dX7_begins_23 : decode cX7_begins 23 = .ok (.getfield 125, 3) := by decide +kernel
theorem dX7_begins_26 : decode cX7_begins 26 = .ok (.iconst 4, 1) := by decide +kernel
theorem dX7_begins_27 : decode cX7_begins 27 = .ok (.iadd, 1) := by decide +kernel
theorem dX7_begins_28 : decode cX7_begins 28 = .ok (.putfield 125, 3) := by decide +kernel
theorem dX7_begins_31 : decode cX7_begins 31 = .ok (.aload_n 0, 1) := by decide +kernel
theorem dX7_begins_32 : decode cX7_begins 32 = .ok (.dup, 1) := by decide +kernel
theorem dX7_begins_33 : decode cX7_begins 33 = .ok (.getfield 134, 3) := by decide +kernel
theorem dX7_begins_36 : decode cX7_begins 36 = .ok (.iconst 1, 1) := by decide +kernel
theorem dX7_begins_37 : decode cX7_begins 37 = .ok (.iadd, 1) := by decide +kernel
theorem dX7_begins_38 : decode cX7_begins 38 = .ok (.putfield 134, 3) := by decide +kernel
theorem dX7_begins_41 : decode cX7_begins 41 = .ok (.aload_n 0, 1) := by decide +kernel
theorem dX7_begins_42 : decode cX7_begins 42 = .ok (.getfield 20, 3) := by decide +kernel
theorem dX7_begins_45 : decode cX7_begins 45 = .ok (.aload_n 0, 1) := by decide +kernel
theorem dX7_begins_46 : decode cX7_begins 46 = .ok (.getfield 137, 3) := by decide +kernel
theorem dX7_begins_49 : decode cX7_begins 49 = .ok (.iload_n 1, 1) := by decide +kernel
theorem dX7_begins_50 : decode cX7_begins 50 = .ok (.iastore, 1) := by decide +kernel
theorem dX7_begins_51 : decode cX7_begins 51 = .ok (.aload_n 0, 1) := by decide +kernel
theorem dX7_begins_52 : decode cX7_begins 52 = .ok (.getfield 23, 3) := by decide +kernel
theorem dX7_begins_55 : decode cX7_begins 55 = .ok (.aload_n 0, 1) := by decide +kernel
theorem dX7_begins_56 : decode cX7_begins 56 = .ok (.getfield 137, 3) := by decide +kernel
theorem dX7_begins_59 : decode cX7_begins 59 = .ok (.iload_n 2, 1) := by decide +kernel
theorem dX7_begins_60 : decode cX7_begins 60 = .ok (.iastore, 1) := by decide +kernel
theorem dX7_begins_61 : decode cX7_begins 61 = .ok (.aload_n 0, 1) := by decide +kernel
theorem dX7_begins_62 : decode cX7_begins 62 = .ok (.getfield 29, 3) := by decide +kernel
theorem dX7_begins_65 : decode cX7_begins 65 = .ok (.aload_n 0, 1) := by decide +kernel
theorem dX7_begins_66 : decode cX7_begins 66 = .ok (.getfield 137, 3) := by decide +kernel
theorem dX7_begins_69 : decode cX7_begins 69 = .ok (.aload_n 0, 1) := by decide +kernel
theorem dX7_begins_70 : decode cX7_begins 70 = .ok (.getfield 140, 3) := by decide +kernel
theorem dX7_begins_73 : decode cX7_begins 73 = .ok (.iastore, 1) := by decide +kernel
theorem dX7_begins_74 : decode cX7_begins 74 = .ok (.aload_n 0, 1) := by decide +kernel
theorem dX7_begins_75 : decode cX7_begins 75 = .ok (.getfield 32, 3) := by decide +kernel
theorem dX7_begins_78 : decode cX7_begins 78 = .ok (.aload_n 0, 1) := by decide +kernel
theorem dX7_begins_79 : decode cX7_begins 79 = .ok (.getfield 137, 3) := by decide +kernel
theorem dX7_begins_82 : decode cX7_begins 82 = .ok (.iconst 0, 1) := by decide +kernel
theorem dX7_begins_83 : decode cX7_begins 83 = .ok (.iastore, 1) := by decide +kernel
theorem dX7_begins_84 : decode cX7_begins 84 = .ok (.aload_n 0, 1) := by decide +kernel
theorem dX7_begins_85 : decode cX7_begins 85 = .ok (.getfield 26, 3) := by decide +kernel
theorem dX7_begins_88 : decode cX7_begins 88 = .ok (.aload_n 0, 1) := by decide +kernel
theorem dX7_begins_89 : decode cX7_begins 89 = .ok (.getfield 137, 3) := by decide +kernel
theorem dX7_begins_92 : decode cX7_begins 92 = .ok (.iload_n 1, 1) := by decide +kernel
theorem dX7_begins_93 : decode cX7_begins 93 = .ok (.iconst 2, 1) := by decide +kernel
theorem dX7_begins_94 : decode cX7_begins 94 = .ok (.iadd, 1) := by decide +kernel
theorem dX7_begins_95 : decode cX7_begins 95 = .ok (.iastore, 1) := by decide +kernel
theorem dX7_begins_96 : decode cX7_begins 96 = .ok (.aload_n 0, 1) := by decide +kernel
theorem dX7_begins_97 : decode cX7_begins 97 = .ok (.aload_n 0, 1) := by decide +kernel
theorem dX7_begins_98 : decode cX7_begins 98 = .ok (.getfield 137, 3) := by decide +kernel
theorem dX7_begins_101 : decode cX7_begins 101 = .ok (.aload_n 0, 1) := by decide +kernel
theorem dX7_begins_102 : decode cX7_begins 102 = .ok (.getfield 143, 3) := by decide +kernel
theorem dX7_begins_105 : decode cX7_begins 105 = .ok (.if_icmp .le 10, 3) := by decide +kernel
theorem dX7_begins_108 : decode cX7_begins 108 = .ok (.aload_n 0, 1) := by decide +kernel
theorem dX7_begins_109 : decode cX7_begins 109 = .ok (.getfield 137, 3) := by decide +kernel
theorem dX7_begins_112 : decode cX7_begins 112 = .ok (.goto 7, 3) := by decide +kernel
theorem dX7_begins_115 : decode cX7_begins 115 = .ok (.aload_n 0, 1) := by decide +kernel
theorem dX7_begins_116 : decode cX7_begins 116 = .ok (.getfield 143, 3) := by decide +kernel
theorem dX7_begins_119 : decode cX7_begins 119 = .ok (.putfield 143, 3) := by decide +kernel
theorem dX7_begins_122 : decode cX7_begins 122 = .ok (.aload_n 0, 1) := by decide +kernel
theorem dX7_begins_123 : decode cX7_begins 123 = .ok (.dup, 1) := by decide +kernel
theorem dX7_begins_124 : decode cX7_begins 124 = .ok (.getfield 137, 3) := by decide +kernel
theorem dX7_begins_127 : decode cX7_begins 127 = .ok (.iconst 1, 1) := by decide +kernel
theorem dX7_begins_128 : decode cX7_begins 128 = .ok (.iadd, 1) := by decide +kernel
theorem dX7_begins_129 : decode cX7_begins 129 = .ok (.putfield 137, 3) := by decide +kernel
theorem dX7_begins_132 : decode cX7_begins 132 = .ok (.iconst 0, 1) := by decide +kernel
theorem dX7_begins_133 : decode cX7_begins 133 = .ok (.istore_n 3, 1) := by decide +kernel
theorem dX7_begins_134 : decode cX7_begins 134 = .ok (.iload_n 3, 1) := by decide +kernel
theorem dX7_begins_135 : decode cX7_begins 135 = .ok (.iconst 2, 1) := by decide +kernel
theorem dX7_begins_136 : decode cX7_begins 136 = .ok (.if_icmp .ge 62, 3) := by decide +kernel
theorem dX7_begins_139 : decode cX7_begins 139 = .ok (.aload_n 0, 1) := by decide +kernel
theorem dX7_begins_140 : decode cX7_begins 140 = .ok (.getfield 122, 3) := by decide +kernel
theorem dX7_begins_143 : decode cX7_begins 143 = .ok (.ifCond .ne 55, 3) := by decide +kernel
theorem dX7_begins_146 : decode cX7_begins 146 = .ok (.iload_n 1, 1) := by decide +kernel
theorem dX7_begins_147 : decode cX7_begins 147 = .ok (.iload_n 3, 1) := by decide +kernel
theorem dX7_begins_148 : decode cX7_begins 148 = .ok (.iadd, 1) := by decide +kernel
theorem dX7_begins_149 : decode cX7_begins 149 = .ok (.iload_n 2, 1) := by decide +kernel
theorem dX7_begins_150 : decode cX7_begins 150 = .ok (.if_icmp .lt 12, 3) := by decide +kernel
theorem dX7_begins_153 : decode cX7_begins 153 = .ok (.aload_n 0, 1) := by decide +kernel
theorem dX7_begins_154 : decode cX7_begins 154 = .ok (.iconst 3, 1) := by decide +kernel
theorem dX7_begins_155 : decode cX7_begins 155 = .ok (.iload_n 2, 1) := by decide +kernel
theorem dX7_begins_156 : decode cX7_begins 156 = .ok (.invokevirtual 131, 3) := by decide +kernel
theorem dX7_begins_159 : decode cX7_begins 159 = .ok (.goto 33, 3) := by decide +kernel
theorem dX7_begins_162 : decode cX7_begins 162 = .ok (.aload_n 0, 1) := by decide +kernel
theorem dX7_begins_163 : decode cX7_begins 163 = .ok (.getfield 7, 3) := by decide +kernel
theorem dX7_begins_166 : decode cX7_begins 166 = .ok (.iload_n 1, 1) := by decide +kernel
theorem dX7_begins_167 : decode cX7_begins 167 = .ok (.iload_n 3, 1) := by decide +kernel
theorem dX7_begins_168 : decode cX7_begins 168 = .ok (.iadd, 1) := by decide +kernel
theorem dX7_begins_169 : decode cX7_begins 169 = .ok (.iaload, 1) := by decide +kernel
theorem dX7_begins_170 : decode cX7_begins 170 = .ok (.iload_n 3, 1) := by decide +kernel
theorem dX7_begins_171 : decode cX7_begins 171 = .ok (.ifCond .ne 8, 3) := by decide +kernel
theorem dX7_begins_174 : decode cX7_begins 174 = .ok (.bipush 80, 2) := by decide +kernel
theorem dX7_begins_176 : decode cX7_begins 176 = .ok (.goto 5, 3) := by decide +kernel
theorem dX7_begins_179 : decode cX7_begins 179 = .ok (.bipush 75, 2) := by decide +kernel
theorem dX7_begins_181 : decode cX7_begins 181 = .ok (.if_icmp .eq 11, 3) := by decide +kernel
theorem dX7_begins_184 : decode cX7_begins 184 = .ok (.aload_n 0, 1) := by decide +kernel
theorem dX7_begins_185 : decode cX7_begins 185 = .ok (.iconst 1, 1) := by decide +kernel
theorem dX7_begins_186 : decode cX7_begins 186 = .ok (.iload_n 1, 1) := by decide +kernel
theorem dX7_begins_187 : decode cX7_begins 187 = .ok (.iload_n 3, 1) := by decide +kernel
theorem dX7_begins_188 : decode cX7_begins 188 = .ok (.iadd, 1) := by decide +kernel
theorem dX7_begins_189 : decode cX7_begins 189 = .ok (.invokevirtual 131, 3) := by decide +kernel
theorem dX7_begins_192 : decode cX7_begins 192 = .ok (.iinc 3 1, 3) := by decide +kernel
theorem dX7_begins_195 : decode cX7_begins 195 = .ok (.goto (-61), 3) := by decide +kernel
theorem dX7_begins_198 : decode cX7_begins 198 = .ok (.return_, 1) := by decide +kernel
theorem dX7_ends_0 : decode cX7_ends 0 = .ok (.aload_n 0, 1) := by decide +kernel
theorem dX7_ends_1 : decode cX7_ends 1 = .ok (.getfield 32, 3) := by decide +kernel
theorem dX7_ends_4 : decode cX7_ends 4 = .ok (.iload_n 1, 1) := by decide +kernel
theorem dX7_ends_5 : decode cX7_ends 5 = .ok (.iaload, 1) := by decide +kernel
theorem dX7_ends_6 : decode cX7_ends 6 = .ok (.istore_n 3, 1) := by decide +kernel
theorem dX7_ends_7 : decode cX7_ends 7 = .ok (.aload_n 0, 1) := by decide +kernel
theorem dX7_ends_8 : decode cX7_ends 8 = .ok (.getfield 35, 3) := by decide +kernel
theorem dX7_ends_11 : decode cX7_ends 11 = .ok (.sipush 600, 3) := by decide +kernel
theorem dX7_ends_14 : decode cX7_ends 14 = .ok (.iload_n 1, 1) := by decide +kernel
theorem dX7_ends_15 : decode cX7_ends 15 = .ok (.imul, 1) := by decide +kernel
theorem dX7_ends_16 : decode cX7_ends 16 = .ok (.iload_n 3, 1) := by decide +kernel
theorem dX7_ends_17 : decode cX7_ends 17 = .ok (.iadd, 1) := by decide +kernel
theorem dX7_ends_18 : decode cX7_ends 18 = .ok (.aload_n 0, 1) := by decide +kernel
theorem dX7_ends_19 : decode cX7_ends 19 = .ok (.getfield 140, 3) := by decide +kernel
theorem dX7_ends_22 : decode cX7_ends 22 = .ok (.aload_n 0, 1) := by decide +kernel
theorem dX7_ends_23 : decode cX7_ends 23 = .ok (.getfield 29, 3) := by decide +kernel
theorem dX7_ends_26 : decode cX7_ends 26 = .ok (.iload_n 1, 1) := by decide +kernel
theorem dX7_ends_27 : decode cX7_ends 27 = .ok (.iaload, 1) := by decide +kernel
theorem dX7_ends_28 : decode cX7_ends 28 = .ok (.isub, 1) := by decide +kernel
theorem dX7_ends_29 : decode cX7_ends 29 = .ok (.iastore, 1) := by decide +kernel
theorem dX7_ends_30 : decode cX7_ends 30 = .ok (.iload_n 1, 1) := by decide +kernel
theorem dX7_ends_31 : decode cX7_ends 31 = .ok (.ifCond .ne 66, 3) := by decide +kernel
theorem dX7_ends_34 : decode cX7_ends 34 = .ok (.aload_n 0, 1) := by decide +kernel
theorem dX7_ends_35 : decode cX7_ends 35 = .ok (.getfield 47, 3) := by decide +kernel
theorem dX7_ends_38 : decode cX7_ends 38 = .ok (.iload_n 3, 1) := by decide +kernel
theorem dX7_ends_39 : decode cX7_ends 39 = .ok (.aload_n 0, 1) := by decide +kernel
theorem dX7_ends_40 : decode cX7_ends 40 = .ok (.getfield 7, 3) := by decide +kernel
theorem dX7_ends_43 : decode cX7_ends 43 = .ok (.aload_n 0, 1) := by decide +kernel
theorem dX7_ends_44 : decode cX7_ends 44 = .ok (.getfield 38, 3) := by decide +kernel
theorem dX7_ends_47 : decode cX7_ends 47 = .ok (.iconst 0, 1) := by decide +kernel
theorem dX7_ends_48 : decode cX7_ends 48 = .ok (.iaload, 1) := by decide +kernel
theorem dX7_ends_49 : decode cX7_ends 49 = .ok (.iaload, 1) := by decide +kernel
theorem dX7_ends_50 : decode cX7_ends 50 = .ok (.iastore, 1) := by decide +kernel
theorem dX7_ends_51 : decode cX7_ends 51 = .ok (.aload_n 0, 1) := by decide +kernel
theorem dX7_ends_52 : decode cX7_ends 52 = .ok (.getfield 50, 3) := by decide +kernel
theorem dX7_ends_55 : decode cX7_ends 55 = .ok (.iload_n 3, 1) := by decide +kernel
theorem dX7_ends_56 : decode cX7_ends 56 = .ok (.aload_n 0, 1) := by decide +kernel
theorem dX7_ends_57 : decode cX7_ends 57 = .ok (.getfield 38, 3) := by decide +kernel
theorem dX7_ends_60 : decode cX7_ends 60 = .ok (.iconst 0, 1) := by decide +kernel
theorem dX7_ends_61 : decode cX7_ends 61 = .ok (.iaload, 1) := by decide +kernel
theorem dX7_ends_62 : decode cX7_ends 62 = .ok (.iastore, 1) := by decide +kernel
theorem dX7_ends_63 : decode cX7_ends 63 = .ok (.aload_n 0, 1) := by decide +kernel
theorem dX7_ends_64 : decode cX7_ends 64 = .ok (.getfield 53, 3) := by decide +kernel
theorem dX7_ends_67 : decode cX7_ends 67 = .ok (.iload_n 3, 1) := by decide +kernel
theorem dX7_ends_68 : decode cX7_ends 68 = .ok (.aload_n 0, 1) := by decide +kernel
theorem dX7_ends_69 : decode cX7_ends 69 = .ok (.getfield 140, 3) := by decide +kernel
theorem dX7_ends_72 : decode cX7_ends 72 = .ok (.aload_n 0, 1) := by decide +kernel
theorem dX7_ends_73 : decode cX7_ends 73 = .ok (.getfield 41, 3) := by decide +kernel
theorem dX7_ends_76 : decode cX7_ends 76 = .ok (.iconst 0, 1) := by decide +kernel
theorem dX7_ends_77 : decode cX7_ends 77 = .ok (.iaload, 1) := by decide +kernel
theorem dX7_ends_78 : decode cX7_ends 78 = .ok (.isub, 1) := by decide +kernel
theorem dX7_ends_79 : decode cX7_ends 79 = .ok (.iastore, 1) := by decide +kernel
theorem dX7_ends_80 : decode cX7_ends 80 = .ok (.aload_n 0, 1) := by decide +kernel
theorem dX7_ends_81 : decode cX7_ends 81 = .ok (.getfield 56, 3) := by decide +kernel
theorem dX7_ends_84 : decode cX7_ends 84 = .ok (.iload_n 3, 1) := by decide +kernel
theorem dX7_ends_85 : decode cX7_ends 85 = .ok (.aload_n 0, 1) := by decide +kernel
theorem dX7_ends_86 : decode cX7_ends 86 = .ok (.getfield 125, 3) := by decide +kernel
theorem dX7_ends_89 : decode cX7_ends 89 = .ok (.aload_n 0, 1) := by decide +kernel
theorem dX7_ends_90 : decode cX7_ends 90 = .ok (.getfield 44, 3) := by decide +kernel
theorem dX7_ends_93 : decode cX7_ends 93 = .ok (.iconst 0, 1) := by decide +kernel
theorem dX7_ends_94 : decode cX7_ends 94 = .ok (.iaload, 1) := by decide +kernel
theorem dX7_ends_95 : decode cX7_ends 95 = .ok (.isub, 1) := by decide +kernel
theorem dX7_ends_96 : decode cX7_ends 96 = .ok (.iastore, 1) := by decide +kernel
theorem dX7_ends_97 : decode cX7_ends 97 = .ok (.aload_n 0, 1) := by decide +kernel
theorem dX7_ends_98 : decode cX7_ends 98 = .ok (.getfield 32, 3) := by decide +kernel
theorem dX7_ends_101 : decode cX7_ends 101 = .ok (.iload_n 1, 1) := by decide +kernel
theorem dX7_ends_102 : decode cX7_ends 102 = .ok (.dup2, 1) := by decide +kernel
theorem dX7_ends_103 : decode cX7_ends 103 = .ok (.iaload, 1) := by decide +kernel
theorem dX7_ends_104 : decode cX7_ends 104 = .ok (.iconst 1, 1) := by decide +kernel
theorem dX7_ends_105 : decode cX7_ends 105 = .ok (.iadd, 1) := by decide +kernel
theorem dX7_ends_106 : decode cX7_ends 106 = .ok (.iastore, 1) := by decide +kernel
theorem dX7_ends_107 : decode cX7_ends 107 = .ok (.aload_n 0, 1) := by decide +kernel
theorem dX7_ends_108 : decode cX7_ends 108 = .ok (.getfield 26, 3) := by decide +kernel
theorem dX7_ends_111 : decode cX7_ends 111 = .ok (.iload_n 1, 1) := by decide +kernel
theorem dX7_ends_112 : decode cX7_ends 112 = .ok (.iload_n 2, 1) := by decide +kernel
theorem dX7_ends_113 : decode cX7_ends 113 = .ok (.iastore, 1) := by decide +kernel
theorem dX7_ends_114 : decode cX7_ends 114 = .ok (.return_, 1) := by decide +kernel
theorem dX7_has_0 : decode cX7_has 0 = .ok (.iload_n 1, 1) := by decide +kernel
theorem dX7_has_1 : decode cX7_has 1 = .ok (.iload_n 2, 1) := by decide +kernel
theorem dX7_has_2 : decode cX7_has 2 = .ok (.iadd, 1) := by decide +kernel
theorem dX7_has_3 : decode cX7_has 3 = .ok (.aload_n 0, 1) := by decide +kernel
theorem dX7_has_4 : decode cX7_has 4 = .ok (.getfield 23, 3) := by decide +kernel
theorem dX7_has_7 : decode cX7_has 7 = .ok (.aload_n 0, 1) := by decide +kernel
theorem dX7_has_8 : decode cX7_has 8 = .ok (.getfield 137, 3) := by decide +kernel
theorem dX7_has_11 : decode cX7_has 11 = .ok (.iconst 1, 1) := by decide +kernel
theorem dX7_has_12 : decode cX7_has 12 = .ok (.isub, 1) := by decide +kernel
theorem dX7_has_13 : decode cX7_has 13 = .ok (.iaload, 1) := by decide +kernel
theorem dX7_has_14 : decode cX7_has 14 = .ok (.if_icmp .le 19, 3) := by decide +kernel
theorem dX7_has_17 : decode cX7_has 17 = .ok (.aload_n 0, 1) := by decide +kernel
theorem dX7_has_18 : decode cX7_has 18 = .ok (.iconst 3, 1) := by decide +kernel
theorem dX7_has_19 : decode cX7_has 19 = .ok (.aload_n 0, 1) := by decide +kernel
theorem dX7_has_20 : decode cX7_has 20 = .ok (.getfield 23, 3) := by decide +kernel
theorem dX7_has_23 : decode cX7_has 23 = .ok (.aload_n 0, 1) := by decide +kernel
theorem dX7_has_24 : decode cX7_has 24 = .ok (.getfield 137, 3) := by decide +kernel
theorem dX7_has_27 : decode cX7_has 27 = .ok (.iconst 1, 1) := by decide +kernel
theorem dX7_has_28 : decode cX7_has 28 = .ok (.isub, 1) := by decide +kernel
theorem dX7_has_29 : decode cX7_has 29 = .ok (.iaload, 1) := by decide +kernel
theorem dX7_has_30 : decode cX7_has 30 = .ok (.invokevirtual 131, 3) := by decide +kernel
theorem dX7_has_33 : decode cX7_has 33 = .ok (.aload_n 0, 1) := by decide +kernel
theorem dX7_has_34 : decode cX7_has 34 = .ok (.getfield 122, 3) := by decide +kernel
theorem dX7_has_37 : decode cX7_has 37 = .ok (.ifCond .ne 7, 3) := by decide +kernel
theorem dX7_has_40 : decode cX7_has 40 = .ok (.iconst 1, 1) := by decide +kernel
theorem dX7_has_41 : decode cX7_has 41 = .ok (.goto 4, 3) := by decide +kernel
theorem dX7_has_44 : decode cX7_has 44 = .ok (.iconst 0, 1) := by decide +kernel
theorem dX7_has_45 : decode cX7_has 45 = .ok (.ireturn, 1) := by decide +kernel
theorem dX7_pays_0 : decode cX7_pays 0 = .ok (.aload_n 0, 1) := by decide +kernel
theorem dX7_pays_1 : decode cX7_pays 1 = .ok (.getfield 140, 3) := by decide +kernel
theorem dX7_pays_4 : decode cX7_pays 4 = .ok (.iload_n 3, 1) := by decide +kernel
theorem dX7_pays_5 : decode cX7_pays 5 = .ok (.iadd, 1) := by decide +kernel
theorem dX7_pays_6 : decode cX7_pays 6 = .ok (.aload_n 0, 1) := by decide +kernel
theorem dX7_pays_7 : decode cX7_pays 7 = .ok (.getfield 146, 3) := by decide +kernel
theorem dX7_pays_10 : decode cX7_pays 10 = .ok (.if_icmp .le 13, 3) := by decide +kernel
theorem dX7_pays_13 : decode cX7_pays 13 = .ok (.aload_n 0, 1) := by decide +kernel
theorem dX7_pays_14 : decode cX7_pays 14 = .ok (.bipush 11, 2) := by decide +kernel
theorem dX7_pays_16 : decode cX7_pays 16 = .ok (.iload_n 1, 1) := by decide +kernel
theorem dX7_pays_17 : decode cX7_pays 17 = .ok (.invokevirtual 131, 3) := by decide +kernel
theorem dX7_pays_20 : decode cX7_pays 20 = .ok (.goto 36, 3) := by decide +kernel
theorem dX7_pays_23 : decode cX7_pays 23 = .ok (.aload_n 0, 1) := by decide +kernel
theorem dX7_pays_24 : decode cX7_pays 24 = .ok (.getfield 125, 3) := by decide +kernel
theorem dX7_pays_27 : decode cX7_pays 27 = .ok (.iload_n 2, 1) := by decide +kernel
theorem dX7_pays_28 : decode cX7_pays 28 = .ok (.iadd, 1) := by decide +kernel
theorem dX7_pays_29 : decode cX7_pays 29 = .ok (.aload_n 0, 1) := by decide +kernel
theorem dX7_pays_30 : decode cX7_pays 30 = .ok (.getfield 128, 3) := by decide +kernel
theorem dX7_pays_33 : decode cX7_pays 33 = .ok (.if_icmp .le 13, 3) := by decide +kernel
theorem dX7_pays_36 : decode cX7_pays 36 = .ok (.aload_n 0, 1) := by decide +kernel
theorem dX7_pays_37 : decode cX7_pays 37 = .ok (.bipush 12, 2) := by decide +kernel
theorem dX7_pays_39 : decode cX7_pays 39 = .ok (.iload_n 1, 1) := by decide +kernel
theorem dX7_pays_40 : decode cX7_pays 40 = .ok (.invokevirtual 131, 3) := by decide +kernel
theorem dX7_pays_43 : decode cX7_pays 43 = .ok (.goto 13, 3) := by decide +kernel
theorem dX7_pays_46 : decode cX7_pays 46 = .ok (.aload_n 0, 1) := by decide +kernel
theorem dX7_pays_47 : decode cX7_pays 47 = .ok (.dup, 1) := by decide +kernel
theorem dX7_pays_48 : decode cX7_pays 48 = .ok (.getfield 125, 3) := by decide +kernel
theorem dX7_pays_51 : decode cX7_pays 51 = .ok (.iload_n 2, 1) := by decide +kernel
theorem dX7_pays_52 : decode cX7_pays 52 = .ok (.iadd, 1) := by decide +kernel
theorem dX7_pays_53 : decode cX7_pays 53 = .ok (.putfield 125, 3) := by decide +kernel
theorem dX7_pays_56 : decode cX7_pays 56 = .ok (.aload_n 0, 1) := by decide +kernel
theorem dX7_pays_57 : decode cX7_pays 57 = .ok (.getfield 122, 3) := by decide +kernel
theorem dX7_pays_60 : decode cX7_pays 60 = .ok (.ifCond .ne 7, 3) := by decide +kernel
theorem dX7_pays_63 : decode cX7_pays 63 = .ok (.iconst 1, 1) := by decide +kernel
theorem dX7_pays_64 : decode cX7_pays 64 = .ok (.goto 4, 3) := by decide +kernel
theorem dX7_pays_67 : decode cX7_pays 67 = .ok (.iconst 0, 1) := by decide +kernel
theorem dX7_pays_68 : decode cX7_pays 68 = .ok (.ireturn, 1) := by decide +kernel
theorem dX7_comes_0 : decode cX7_comes 0 = .ok (.aload_n 0, 1) := by decide +kernel
theorem dX7_comes_1 : decode cX7_comes 1 = .ok (.getfield 13, 3) := by decide +kernel
theorem dX7_comes_4 : decode cX7_comes 4 = .ok (.aload_n 0, 1) := by decide +kernel
theorem dX7_comes_5 : decode cX7_comes 5 = .ok (.getfield 140, 3) := by decide +kernel
theorem dX7_comes_8 : decode cX7_comes 8 = .ok (.iload_n 1, 1) := by decide +kernel
theorem dX7_comes_9 : decode cX7_comes 9 = .ok (.iastore, 1) := by decide +kernel
theorem dX7_comes_10 : decode cX7_comes 10 = .ok (.aload_n 0, 1) := by decide +kernel
theorem dX7_comes_11 : decode cX7_comes 11 = .ok (.dup, 1) := by decide +kernel
theorem dX7_comes_12 : decode cX7_comes 12 = .ok (.getfield 140, 3) := by decide +kernel
theorem dX7_comes_15 : decode cX7_comes 15 = .ok (.iconst 1, 1) := by decide +kernel
theorem dX7_comes_16 : decode cX7_comes 16 = .ok (.iadd, 1) := by decide +kernel
theorem dX7_comes_17 : decode cX7_comes 17 = .ok (.putfield 140, 3) := by decide +kernel
theorem dX7_comes_20 : decode cX7_comes 20 = .ok (.return_, 1) := by decide +kernel
theorem dX7_item_0 : decode cX7_item 0 = .ok (.aload_n 0, 1) := by decide +kernel
theorem dX7_item_1 : decode cX7_item 1 = .ok (.getfield 137, 3) := by decide +kernel
theorem dX7_item_4 : decode cX7_item 4 = .ok (.iconst 1, 1) := by decide +kernel
theorem dX7_item_5 : decode cX7_item 5 = .ok (.isub, 1) := by decide +kernel
theorem dX7_item_6 : decode cX7_item 6 = .ok (.istore_n 1, 1) := by decide +kernel
theorem dX7_item_7 : decode cX7_item 7 = .ok (.aload_n 0, 1) := by decide +kernel
theorem dX7_item_8 : decode cX7_item 8 = .ok (.getfield 26, 3) := by decide +kernel
theorem dX7_item_11 : decode cX7_item 11 = .ok (.iload_n 1, 1) := by decide +kernel
theorem dX7_item_12 : decode cX7_item 12 = .ok (.iaload, 1) := by decide +kernel
theorem dX7_item_13 : decode cX7_item 13 = .ok (.istore_n 2, 1) := by decide +kernel
theorem dX7_item_14 : decode cX7_item 14 = .ok (.aload_n 0, 1) := by decide +kernel
theorem dX7_item_15 : decode cX7_item 15 = .ok (.iload_n 2, 1) := by decide +kernel
theorem dX7_item_16 : decode cX7_item 16 = .ok (.iconst 1, 1) := by decide +kernel
theorem dX7_item_17 : decode cX7_item 17 = .ok (.invokevirtual 149, 3) := by decide +kernel
theorem dX7_item_20 : decode cX7_item 20 = .ok (.ifCond .ne 4, 3) := by decide +kernel
theorem dX7_item_23 : decode cX7_item 23 = .ok (.return_, 1) := by decide +kernel
theorem dX7_item_24 : decode cX7_item 24 = .ok (.aload_n 0, 1) := by decide +kernel
theorem dX7_item_25 : decode cX7_item 25 = .ok (.getfield 38, 3) := by decide +kernel
theorem dX7_item_28 : decode cX7_item 28 = .ok (.iload_n 1, 1) := by decide +kernel
theorem dX7_item_29 : decode cX7_item 29 = .ok (.iload_n 2, 1) := by decide +kernel
theorem dX7_item_30 : decode cX7_item 30 = .ok (.iastore, 1) := by decide +kernel
theorem dX7_item_31 : decode cX7_item 31 = .ok (.aload_n 0, 1) := by decide +kernel
theorem dX7_item_32 : decode cX7_item 32 = .ok (.getfield 41, 3) := by decide +kernel
theorem dX7_item_35 : decode cX7_item 35 = .ok (.iload_n 1, 1) := by decide +kernel
theorem dX7_item_36 : decode cX7_item 36 = .ok (.aload_n 0, 1) := by decide +kernel
theorem dX7_item_37 : decode cX7_item 37 = .ok (.getfield 140, 3) := by decide +kernel
theorem dX7_item_40 : decode cX7_item 40 = .ok (.iastore, 1) := by decide +kernel
theorem dX7_item_41 : decode cX7_item 41 = .ok (.aload_n 0, 1) := by decide +kernel
theorem dX7_item_42 : decode cX7_item 42 = .ok (.getfield 44, 3) := by decide +kernel
theorem dX7_item_45 : decode cX7_item 45 = .ok (.iload_n 1, 1) := by decide +kernel
theorem dX7_item_46 : decode cX7_item 46 = .ok (.aload_n 0, 1) := by decide +kernel
theorem dX7_item_47 : decode cX7_item 47 = .ok (.getfield 125, 3) := by decide +kernel
theorem dX7_item_50 : decode cX7_item 50 = .ok (.iastore, 1) := by decide +kernel
theorem dX7_item_51 : decode cX7_item 51 = .ok (.aload_n 0, 1) := by decide +kernel
theorem dX7_item_52 : decode cX7_item 52 = .ok (.getfield 7, 3) := by decide +kernel
theorem dX7_item_55 : decode cX7_item 55 = .ok (.iload_n 2, 1) := by decide +kernel
theorem dX7_item_56 : decode cX7_item 56 = .ok (.iaload, 1) := by decide +kernel
theorem dX7_item_57 : decode cX7_item 57 = .ok (.tableswitch 316 0 7 #[47, 56, 203, 281, 290, 56, 298, 307], 47) := by decide +kernel
theorem dX7_item_104 : decode cX7_item 104 = .ok (.aload_n 0, 1) := by decide +kernel
theorem dX7_item_105 : decode cX7_item 105 = .ok (.iload_n 1, 1) := by decide +kernel
theorem dX7_item_106 : decode cX7_item 106 = .ok (.iload_n 2, 1) := by decide +kernel
theorem dX7_item_107 : decode cX7_item 107 = .ok (.invokevirtual 153, 3) := by decide +kernel
theorem dX7_item_110 : decode cX7_item 110 = .ok (.goto 269, 3) := by decide +kernel
theorem dX7_item_113 : decode cX7_item 113 = .ok (.aload_n 0, 1) := by decide +kernel
theorem dX7_item_114 : decode cX7_item 114 = .ok (.iload_n 2, 1) := by decide +kernel
theorem dX7_item_115 : decode cX7_item 115 = .ok (.iconst 2, 1) := by decide +kernel
theorem dX7_item_116 : decode cX7_item 116 = .ok (.invokevirtual 149, 3) := by decide +kernel
theorem dX7_item_119 : decode cX7_item 119 = .ok (.ifCond .eq 260, 3) := by decide +kernel
theorem dX7_item_122 : decode cX7_item 122 = .ok (.aload_n 0, 1) := by decide +kernel
theorem dX7_item_123 : decode cX7_item 123 = .ok (.iload_n 2, 1) := by decide +kernel
theorem dX7_item_124 : decode cX7_item 124 = .ok (.iconst 2, 1) := by decide +kernel
theorem dX7_item_125 : decode cX7_item 125 = .ok (.aload_n 0, 1) := by decide +kernel
theorem dX7_item_126 : decode cX7_item 126 = .ok (.getfield 7, 3) := by decide +kernel
theorem dX7_item_129 : decode cX7_item 129 = .ok (.iload_n 2, 1) := by decide +kernel
theorem dX7_item_130 : decode cX7_item 130 = .ok (.iconst 1, 1) := by decide +kernel
theorem dX7_item_131 : decode cX7_item 131 = .ok (.iadd, 1) := by decide +kernel
theorem dX7_item_132 : decode cX7_item 132 = .ok (.iaload, 1) := by decide +kernel
theorem dX7_item_133 : decode cX7_item 133 = .ok (.iadd, 1) := by decide +kernel
theorem dX7_item_134 : decode cX7_item 134 = .ok (.invokevirtual 149, 3) := by decide +kernel
theorem dX7_item_137 : decode cX7_item 137 = .ok (.ifCond .eq 242, 3) := by decide +kernel
theorem dX7_item_140 : decode cX7_item 140 = .ok (.aload_n 0, 1) := by decide +kernel
theorem dX7_item_141 : decode cX7_item 141 = .ok (.iload_n 2, 1) := by decide +kernel
theorem dX7_item_142 : decode cX7_item 142 = .ok (.iconst 2, 1) := by decide +kernel
theorem dX7_item_143 : decode cX7_item 143 = .ok (.aload_n 0, 1) := by decide +kernel
theorem dX7_item_144 : decode cX7_item 144 = .ok (.getfield 7, 3) := by decide +kernel
theorem dX7_item_147 : decode cX7_item 147 = .ok (.iload_n 2, 1) := by decide +kernel
theorem dX7_item_148 : decode cX7_item 148 = .ok (.iconst 1, 1) := by decide +kernel
theorem dX7_item_149 : decode cX7_item 149 = .ok (.iadd, 1) := by decide +kernel
theorem dX7_item_150 : decode cX7_item 150 = .ok (.iaload, 1) := by decide +kernel
theorem dX7_item_151 : decode cX7_item 151 = .ok (.aload_n 0, 1) := by decide +kernel
theorem dX7_item_152 : decode cX7_item 152 = .ok (.getfield 7, 3) := by decide +kernel
theorem dX7_item_155 : decode cX7_item 155 = .ok (.iload_n 2, 1) := by decide +kernel
theorem dX7_item_156 : decode cX7_item 156 = .ok (.iaload, 1) := by decide +kernel
theorem dX7_item_157 : decode cX7_item 157 = .ok (.iconst 1, 1) := by decide +kernel
theorem dX7_item_158 : decode cX7_item 158 = .ok (.if_icmp .ne 7, 3) := by decide +kernel
theorem dX7_item_161 : decode cX7_item 161 = .ok (.iconst 2, 1) := by decide +kernel
theorem dX7_item_162 : decode cX7_item 162 = .ok (.goto 4, 3) := by decide +kernel
theorem dX7_item_165 : decode cX7_item 165 = .ok (.iconst 1, 1) := by decide +kernel
theorem dX7_item_166 : decode cX7_item 166 = .ok (.imul, 1) := by decide +kernel
theorem dX7_item_167 : decode cX7_item 167 = .ok (.iadd, 1) := by decide +kernel
theorem dX7_item_168 : decode cX7_item 168 = .ok (.aload_n 0, 1) := by decide +kernel
theorem dX7_item_169 : decode cX7_item 169 = .ok (.getfield 7, 3) := by decide +kernel
theorem dX7_item_172 : decode cX7_item 172 = .ok (.iload_n 2, 1) := by decide +kernel
theorem dX7_item_173 : decode cX7_item 173 = .ok (.iaload, 1) := by decide +kernel
theorem dX7_item_174 : decode cX7_item 174 = .ok (.iconst 1, 1) := by decide +kernel
theorem dX7_item_175 : decode cX7_item 175 = .ok (.if_icmp .ne 14, 3) := by decide +kernel
theorem dX7_item_178 : decode cX7_item 178 = .ok (.aload_n 0, 1) := by decide +kernel
theorem dX7_item_179 : decode cX7_item 179 = .ok (.getfield 7, 3) := by decide +kernel
theorem dX7_item_182 : decode cX7_item 182 = .ok (.iload_n 2, 1) := by decide +kernel
theorem dX7_item_183 : decode cX7_item 183 = .ok (.iconst 1, 1) := by decide +kernel
theorem dX7_item_184 : decode cX7_item 184 = .ok (.iadd, 1) := by decide +kernel
theorem dX7_item_185 : decode cX7_item 185 = .ok (.iaload, 1) := by decide +kernel
theorem dX7_item_186 : decode cX7_item 186 = .ok (.goto 4, 3) := by decide +kernel
theorem dX7_item_189 : decode cX7_item 189 = .ok (.iconst 0, 1) := by decide +kernel
theorem dX7_item_190 : decode cX7_item 190 = .ok (.invokevirtual 156, 3) := by decide +kernel
theorem dX7_item_193 : decode cX7_item 193 = .ok (.ifCond .eq 186, 3) := by decide +kernel
theorem dX7_item_196 : decode cX7_item 196 = .ok (.iconst 0, 1) := by decide +kernel
theorem dX7_item_197 : decode cX7_item 197 = .ok (.istore_n 3, 1) := by decide +kernel
theorem dX7_item_198 : decode cX7_item 198 = .ok (.iload_n 3, 1) := by decide +kernel
theorem dX7_item_199 : decode cX7_item 199 = .ok (.aload_n 0, 1) := by decide +kernel
theorem dX7_item_200 : decode cX7_item 200 = .ok (.getfield 7, 3) := by decide +kernel
theorem dX7_item_203 : decode cX7_item 203 = .ok (.iload_n 2, 1) := by decide +kernel
theorem dX7_item_204 : decode cX7_item 204 = .ok (.iconst 1, 1) := by decide +kernel
theorem dX7_item_205 : decode cX7_item 205 = .ok (.iadd, 1) := by decide +kernel
theorem dX7_item_206 : decode cX7_item 206 = .ok (.iaload, 1) := by decide +kernel
theorem dX7_item_207 : decode cX7_item 207 = .ok (.if_icmp .ge 33, 3) := by decide +kernel
theorem dX7_item_210 : decode cX7_item 210 = .ok (.aload_n 0, 1) := by decide +kernel
theorem dX7_item_211 : decode cX7_item 211 = .ok (.getfield 7, 3) := by decide +kernel
theorem dX7_item_214 : decode cX7_item 214 = .ok (.iload_n 2, 1) := by decide +kernel
theorem dX7_item_215 : decode cX7_item 215 = .ok (.iaload, 1) := by decide +kernel
theorem dX7_item_216 : decode cX7_item 216 = .ok (.iconst 1, 1) := by decide +kernel
theorem dX7_item_217 : decode cX7_item 217 = .ok (.if_icmp .ne 23, 3) := by decide +kernel
theorem dX7_item_220 : decode cX7_item 220 = .ok (.aload_n 0, 1) := by decide +kernel
theorem dX7_item_221 : decode cX7_item 221 = .ok (.aload_n 0, 1) := by decide +kernel
theorem dX7_item_222 : decode cX7_item 222 = .ok (.getfield 7, 3) := by decide +kernel
theorem dX7_item_225 : decode cX7_item 225 = .ok (.iload_n 2, 1) := by decide +kernel
theorem dX7_item_226 : decode cX7_item 226 = .ok (.iconst 2, 1) := by decide +kernel
theorem dX7_item_227 : decode cX7_item 227 = .ok (.iadd, 1) := by decide +kernel
theorem dX7_item_228 : decode cX7_item 228 = .ok (.iload_n 3, 1) := by decide +kernel
theorem dX7_item_229 : decode cX7_item 229 = .ok (.iadd, 1) := by decide +kernel
theorem dX7_item_230 : decode cX7_item 230 = .ok (.iaload, 1) := by decide +kernel
theorem dX7_item_231 : decode cX7_item 231 = .ok (.invokevirtual 160, 3) := by decide +kernel
theorem dX7_item_234 : decode cX7_item 234 = .ok (.iinc 3 1, 3) := by decide +kernel
theorem dX7_item_237 : decode cX7_item 237 = .ok (.goto (-39), 3) := by decide +kernel
theorem dX7_item_240 : decode cX7_item 240 = .ok (.aload_n 0, 1) := by decide +kernel
theorem dX7_item_241 : decode cX7_item 241 = .ok (.iload_n 1, 1) := by decide +kernel
theorem dX7_item_242 : decode cX7_item 242 = .ok (.iload_n 2, 1) := by decide +kernel
theorem dX7_item_243 : decode cX7_item 243 = .ok (.iconst 2, 1) := by decide +kernel
theorem dX7_item_244 : decode cX7_item 244 = .ok (.iadd, 1) := by decide +kernel
theorem dX7_item_245 : decode cX7_item 245 = .ok (.aload_n 0, 1) := by decide +kernel
theorem dX7_item_246 : decode cX7_item 246 = .ok (.getfield 7, 3) := by decide +kernel
theorem dX7_item_249 : decode cX7_item 249 = .ok (.iload_n 2, 1) := by decide +kernel
theorem dX7_item_250 : decode cX7_item 250 = .ok (.iconst 1, 1) := by decide +kernel
theorem dX7_item_251 : decode cX7_item 251 = .ok (.iadd, 1) := by decide +kernel
theorem dX7_item_252 : decode cX7_item 252 = .ok (.iaload, 1) := by decide +kernel
theorem dX7_item_253 : decode cX7_item 253 = .ok (.iadd, 1) := by decide +kernel
theorem dX7_item_254 : decode cX7_item 254 = .ok (.invokevirtual 163, 3) := by decide +kernel
theorem dX7_item_257 : decode cX7_item 257 = .ok (.goto 122, 3) := by decide +kernel
theorem dX7_item_260 : decode cX7_item 260 = .ok (.aload_n 0, 1) := by decide +kernel
theorem dX7_item_261 : decode cX7_item 261 = .ok (.iload_n 2, 1) := by decide +kernel
theorem dX7_item_262 : decode cX7_item 262 = .ok (.iconst 3, 1) := by decide +kernel
theorem dX7_item_263 : decode cX7_item 263 = .ok (.invokevirtual 149, 3) := by decide +kernel
theorem dX7_item_266 : decode cX7_item 266 = .ok (.ifCond .eq 113, 3) := by decide +kernel
theorem dX7_item_269 : decode cX7_item 269 = .ok (.aload_n 0, 1) := by decide +kernel
theorem dX7_item_270 : decode cX7_item 270 = .ok (.iload_n 2, 1) := by decide +kernel
theorem dX7_item_271 : decode cX7_item 271 = .ok (.iconst 3, 1) := by decide +kernel
theorem dX7_item_272 : decode cX7_item 272 = .ok (.aload_n 0, 1) := by decide +kernel
theorem dX7_item_273 : decode cX7_item 273 = .ok (.getfield 7, 3) := by decide +kernel
theorem dX7_item_276 : decode cX7_item 276 = .ok (.iload_n 2, 1) := by decide +kernel
theorem dX7_item_277 : decode cX7_item 277 = .ok (.iconst 1, 1) := by decide +kernel
theorem dX7_item_278 : decode cX7_item 278 = .ok (.iadd, 1) := by decide +kernel
theorem dX7_item_279 : decode cX7_item 279 = .ok (.iaload, 1) := by decide +kernel
theorem dX7_item_280 : decode cX7_item 280 = .ok (.iadd, 1) := by decide +kernel
theorem dX7_item_281 : decode cX7_item 281 = .ok (.aload_n 0, 1) := by decide +kernel
theorem dX7_item_282 : decode cX7_item 282 = .ok (.getfield 7, 3) := by decide +kernel
theorem dX7_item_285 : decode cX7_item 285 = .ok (.iload_n 2, 1) := by decide +kernel
theorem dX7_item_286 : decode cX7_item 286 = .ok (.iconst 1, 1) := by decide +kernel
theorem dX7_item_287 : decode cX7_item 287 = .ok (.iadd, 1) := by decide +kernel
theorem dX7_item_288 : decode cX7_item 288 = .ok (.iaload, 1) := by decide +kernel
theorem dX7_item_289 : decode cX7_item 289 = .ok (.invokevirtual 156, 3) := by decide +kernel
theorem dX7_item_292 : decode cX7_item 292 = .ok (.ifCond .eq 87, 3) := by decide +kernel
theorem dX7_item_295 : decode cX7_item 295 = .ok (.iconst 0, 1) := by decide +kernel
theorem dX7_item_296 : decode cX7_item 296 = .ok (.istore_n 3, 1) := by decide +kernel
theorem dX7_item_297 : decode cX7_item 297 = .ok (.iload_n 3, 1) := by decide +kernel
theorem dX7_item_298 : decode cX7_item 298 = .ok (.aload_n 0, 1) := by decide +kernel
theorem dX7_item_299 : decode cX7_item 299 = .ok (.getfield 7, 3) := by decide +kernel
theorem dX7_item_302 : decode cX7_item 302 = .ok (.iload_n 2, 1) := by decide +kernel
theorem dX7_item_303 : decode cX7_item 303 = .ok (.iconst 1, 1) := by decide +kernel
theorem dX7_item_304 : decode cX7_item 304 = .ok (.iadd, 1) := by decide +kernel
theorem dX7_item_305 : decode cX7_item 305 = .ok (.iaload, 1) := by decide +kernel
theorem dX7_item_306 : decode cX7_item 306 = .ok (.if_icmp .ge 21, 3) := by decide +kernel
theorem dX7_item_309 : decode cX7_item 309 = .ok (.aload_n 0, 1) := by decide +kernel
theorem dX7_item_310 : decode cX7_item 310 = .ok (.aload_n 0, 1) := by decide +kernel
theorem dX7_item_311 : decode cX7_item 311 = .ok (.getfield 7, 3) := by decide +kernel
theorem dX7_item_314 : decode cX7_item 314 = .ok (.iload_n 2, 1) := by decide +kernel
theorem dX7_item_315 : decode cX7_item 315 = .ok (.iconst 2, 1) := by decide +kernel
theorem dX7_item_316 : decode cX7_item 316 = .ok (.iadd, 1) := by decide +kernel
theorem dX7_item_317 : decode cX7_item 317 = .ok (.iaload, 1) := by decide +kernel
theorem dX7_item_318 : decode cX7_item 318 = .ok (.invokevirtual 160, 3) := by decide +kernel
theorem dX7_item_321 : decode cX7_item 321 = .ok (.iinc 3 1, 3) := by decide +kernel
theorem dX7_item_324 : decode cX7_item 324 = .ok (.goto (-27), 3) := by decide +kernel
theorem dX7_item_327 : decode cX7_item 327 = .ok (.aload_n 0, 1) := by decide +kernel
theorem dX7_item_328 : decode cX7_item 328 = .ok (.iload_n 1, 1) := by decide +kernel
theorem dX7_item_329 : decode cX7_item 329 = .ok (.iload_n 2, 1) := by decide +kernel
theorem dX7_item_330 : decode cX7_item 330 = .ok (.iconst 3, 1) := by decide +kernel
theorem dX7_item_331 : decode cX7_item 331 = .ok (.iadd, 1) := by decide +kernel
theorem dX7_item_332 : decode cX7_item 332 = .ok (.invokevirtual 163, 3) := by decide +kernel
theorem dX7_item_335 : decode cX7_item 335 = .ok (.goto 44, 3) := by decide +kernel
theorem dX7_item_338 : decode cX7_item 338 = .ok (.aload_n 0, 1) := by decide +kernel
theorem dX7_item_339 : decode cX7_item 339 = .ok (.iload_n 1, 1) := by decide +kernel
theorem dX7_item_340 : decode cX7_item 340 = .ok (.iload_n 2, 1) := by decide +kernel
theorem dX7_item_341 : decode cX7_item 341 = .ok (.invokevirtual 166, 3) := by decide +kernel
theorem dX7_item_344 : decode cX7_item 344 = .ok (.goto 35, 3) := by decide +kernel
theorem dX7_item_347 : decode cX7_item 347 = .ok (.aload_n 0, 1) := by decide +kernel
theorem dX7_item_348 : decode cX7_item 348 = .ok (.iload_n 2, 1) := by decide +kernel
theorem dX7_item_349 : decode cX7_item 349 = .ok (.invokevirtual 169, 3) := by decide +kernel
theorem dX7_item_352 : decode cX7_item 352 = .ok (.goto 27, 3) := by decide +kernel
theorem dX7_item_355 : decode cX7_item 355 = .ok (.aload_n 0, 1) := by decide +kernel
theorem dX7_item_356 : decode cX7_item 356 = .ok (.iload_n 1, 1) := by decide +kernel
theorem dX7_item_357 : decode cX7_item 357 = .ok (.iload_n 2, 1) := by decide +kernel
theorem dX7_item_358 : decode cX7_item 358 = .ok (.invokevirtual 172, 3) := by decide +kernel
theorem dX7_item_361 : decode cX7_item 361 = .ok (.goto 18, 3) := by decide +kernel
theorem dX7_item_364 : decode cX7_item 364 = .ok (.aload_n 0, 1) := by decide +kernel
theorem dX7_item_365 : decode cX7_item 365 = .ok (.iload_n 1, 1) := by decide +kernel
theorem dX7_item_366 : decode cX7_item 366 = .ok (.iload_n 2, 1) := by decide +kernel
theorem dX7_item_367 : decode cX7_item 367 = .ok (.invokevirtual 175, 3) := by decide +kernel
theorem dX7_item_370 : decode cX7_item 370 = .ok (.goto 9, 3) := by decide +kernel
theorem dX7_item_373 : decode cX7_item 373 = .ok (.aload_n 0, 1) := by decide +kernel
theorem dX7_item_374 : decode cX7_item 374 = .ok (.iconst 2, 1) := by decide +kernel
theorem dX7_item_375 : decode cX7_item 375 = .ok (.iload_n 2, 1) := by decide +kernel
theorem dX7_item_376 : decode cX7_item 376 = .ok (.invokevirtual 131, 3) := by decide +kernel
theorem dX7_item_379 : decode cX7_item 379 = .ok (.return_, 1) := by decide +kernel
theorem dX7_closes_0 : decode cX7_closes 0 = .ok (.aload_n 0, 1) := by decide +kernel
theorem dX7_closes_1 : decode cX7_closes 1 = .ok (.iload_n 2, 1) := by decide +kernel
theorem dX7_closes_2 : decode cX7_closes 2 = .ok (.iconst 2, 1) := by decide +kernel
theorem dX7_closes_3 : decode cX7_closes 3 = .ok (.invokevirtual 149, 3) := by decide +kernel
theorem dX7_closes_6 : decode cX7_closes 6 = .ok (.ifCond .ne 4, 3) := by decide +kernel
theorem dX7_closes_9 : decode cX7_closes 9 = .ok (.return_, 1) := by decide +kernel
theorem dX7_closes_10 : decode cX7_closes 10 = .ok (.aload_n 0, 1) := by decide +kernel
