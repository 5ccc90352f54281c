theorem dX6_init_0 : decode cX6_init 0 = .ok (.aload_n 0, 1) := by decide +kernel
theorem dX6_init_1 : decode cX6_init 1 = .ok (.invokespecial 1, 3) := by decide +kernel
theorem dX6_init_4 : decode cX6_init 4 = .ok (.aload_n 0, 1) := by decide +kernel
theorem dX6_init_5 : decode cX6_init 5 = .ok (.sipush 3071, 3) := by decide +kernel
theorem dX6_init_8 : decode cX6_init 8 = .ok (.newarray .int, 2) := by decide +kernel
theorem dX6_init_10 : decode cX6_init 10 = .ok (.putfield 7, 3) := by decide +kernel
theorem dX6_init_13 : decode cX6_init 13 = .ok (.aload_n 0, 1) := by decide +kernel
theorem dX6_init_14 : decode cX6_init 14 = .ok (.sipush 3071, 3) := by decide +kernel
theorem dX6_init_17 : decode cX6_init 17 = .ok (.newarray .int, 2) := by decide +kernel
theorem dX6_init_19 : decode cX6_init 19 = .ok (.putfield 13, 3) := by decide +kernel
theorem dX6_init_22 : decode cX6_init 22 = .ok (.aload_n 0, 1) := by decide +kernel
theorem dX6_init_23 : decode cX6_init 23 = .ok (.sipush 3071, 3) := by decide +kernel
theorem dX6_init_26 : decode cX6_init 26 = .ok (.newarray .int, 2) := by decide +kernel
theorem dX6_init_28 : decode cX6_init 28 = .ok (.putfield 16, 3) := by decide +kernel
theorem dX6_init_31 : decode cX6_init 31 = .ok (.aload_n 0, 1) := by decide +kernel
theorem dX6_init_32 : decode cX6_init 32 = .ok (.iconst 4, 1) := by decide +kernel
theorem dX6_init_33 : decode cX6_init 33 = .ok (.newarray .int, 2) := by decide +kernel
theorem dX6_init_35 : decode cX6_init 35 = .ok (.putfield 19, 3) := by decide +kernel
theorem dX6_init_38 : decode cX6_init 38 = .ok (.aload_n 0, 1) := by decide +kernel
theorem dX6_init_39 : decode cX6_init 39 = .ok (.iconst 4, 1) := by decide +kernel
theorem dX6_init_40 : decode cX6_init 40 = .ok (.newarray .int, 2) := by decide +kernel
theorem dX6_init_42 : decode cX6_init 42 = .ok (.putfield 22, 3) := by decide +kernel
theorem dX6_init_45 : decode cX6_init 45 = .ok (.aload_n 0, 1) := by decide +kernel
theorem dX6_init_46 : decode cX6_init 46 = .ok (.bipush 96, 2) := by decide +kernel
theorem dX6_init_48 : decode cX6_init 48 = .ok (.newarray .int, 2) := by decide +kernel
theorem dX6_init_50 : decode cX6_init 50 = .ok (.putfield 25, 3) := by decide +kernel
theorem dX6_init_53 : decode cX6_init 53 = .ok (.aload_n 0, 1) := by decide +kernel
theorem dX6_init_54 : decode cX6_init 54 = .ok (.iconst 5, 1) := by decide +kernel
theorem dX6_init_55 : decode cX6_init 55 = .ok (.newarray .int, 2) := by decide +kernel
theorem dX6_init_57 : decode cX6_init 57 = .ok (.putfield 28, 3) := by decide +kernel
theorem dX6_init_60 : decode cX6_init 60 = .ok (.aload_n 0, 1) := by decide +kernel
theorem dX6_init_61 : decode cX6_init 61 = .ok (.iconst 5, 1) := by decide +kernel
theorem dX6_init_62 : decode cX6_init 62 = .ok (.newarray .int, 2) := by decide +kernel
theorem dX6_init_64 : decode cX6_init 64 = .ok (.putfield 31, 3) := by decide +kernel
theorem dX6_init_67 : decode cX6_init 67 = .ok (.aload_n 0, 1) := by decide +kernel
theorem dX6_init_68 : decode cX6_init 68 = .ok (.iconst 5, 1) := by decide +kernel
theorem dX6_init_69 : decode cX6_init 69 = .ok (.newarray .int, 2) := by decide +kernel
theorem dX6_init_71 : decode cX6_init 71 = .ok (.putfield 34, 3) := by decide +kernel
theorem dX6_init_74 : decode cX6_init 74 = .ok (.aload_n 0, 1) := by decide +kernel
theorem dX6_init_75 : decode cX6_init 75 = .ok (.iconst 5, 1) := by decide +kernel
theorem dX6_init_76 : decode cX6_init 76 = .ok (.newarray .int, 2) := by decide +kernel
theorem dX6_init_78 : decode cX6_init 78 = .ok (.putfield 37, 3) := by decide +kernel
theorem dX6_init_81 : decode cX6_init 81 = .ok (.aload_n 0, 1) := by decide +kernel
theorem dX6_init_82 : decode cX6_init 82 = .ok (.bipush 120, 2) := by decide +kernel
theorem dX6_init_84 : decode cX6_init 84 = .ok (.newarray .int, 2) := by decide +kernel
theorem dX6_init_86 : decode cX6_init 86 = .ok (.putfield 40, 3) := by decide +kernel
theorem dX6_init_89 : decode cX6_init 89 = .ok (.aload_n 0, 1) := by decide +kernel
theorem dX6_init_90 : decode cX6_init 90 = .ok (.bipush 71, 2) := by decide +kernel
theorem dX6_init_92 : decode cX6_init 92 = .ok (.newarray .int, 2) := by decide +kernel
theorem dX6_init_94 : decode cX6_init 94 = .ok (.putfield 43, 3) := by decide +kernel
theorem dX6_init_97 : decode cX6_init 97 = .ok (.aload_n 0, 1) := by decide +kernel
theorem dX6_init_98 : decode cX6_init 98 = .ok (.bipush 96, 2) := by decide +kernel
theorem dX6_init_100 : decode cX6_init 100 = .ok (.newarray .int, 2) := by decide +kernel
theorem dX6_init_102 : decode cX6_init 102 = .ok (.putfield 46, 3) := by decide +kernel
theorem dX6_init_105 : decode cX6_init 105 = .ok (.aload_n 0, 1) := by decide +kernel
theorem dX6_init_106 : decode cX6_init 106 = .ok (.sipush 128, 3) := by decide +kernel
theorem dX6_init_109 : decode cX6_init 109 = .ok (.newarray .int, 2) := by decide +kernel
theorem dX6_init_111 : decode cX6_init 111 = .ok (.putfield 49, 3) := by decide +kernel
theorem dX6_init_114 : decode cX6_init 114 = .ok (.aload_n 0, 1) := by decide +kernel
theorem dX6_init_115 : decode cX6_init 115 = .ok (.bipush 100, 2) := by decide +kernel
theorem dX6_init_117 : decode cX6_init 117 = .ok (.newarray .int, 2) := by decide +kernel
theorem dX6_init_119 : decode cX6_init 119 = .ok (.putfield 52, 3) := by decide +kernel
theorem dX6_init_122 : decode cX6_init 122 = .ok (.aload_n 0, 1) := by decide +kernel
theorem dX6_init_123 : decode cX6_init 123 = .ok (.bipush 24, 2) := by decide +kernel
theorem dX6_init_125 : decode cX6_init 125 = .ok (.newarray .int, 2) := by decide +kernel
theorem dX6_init_127 : decode cX6_init 127 = .ok (.putfield 55, 3) := by decide +kernel
theorem dX6_init_130 : decode cX6_init 130 = .ok (.aload_n 0, 1) := by decide +kernel
theorem dX6_init_131 : decode cX6_init 131 = .ok (.bipush 60, 2) := by decide +kernel
theorem dX6_init_133 : decode cX6_init 133 = .ok (.newarray .int, 2) := by decide +kernel
theorem dX6_init_135 : decode cX6_init 135 = .ok (.putfield 58, 3) := by decide +kernel
theorem dX6_init_138 : decode cX6_init 138 = .ok (.aload_n 0, 1) := by decide +kernel
theorem dX6_init_139 : decode cX6_init 139 = .ok (.bipush 60, 2) := by decide +kernel
theorem dX6_init_141 : decode cX6_init 141 = .ok (.newarray .int, 2) := by decide +kernel
theorem dX6_init_143 : decode cX6_init 143 = .ok (.putfield 61, 3) := by decide +kernel
theorem dX6_init_146 : decode cX6_init 146 = .ok (.aload_n 0, 1) := by decide +kernel
theorem dX6_init_147 : decode cX6_init 147 = .ok (.getfield 7, 3) := by decide +kernel
theorem dX6_init_150 : decode cX6_init 150 = .ok (.bipush 8, 2) := by decide +kernel
theorem dX6_init_152 : decode cX6_init 152 = .ok (.iconst 1, 1) := by decide +kernel
theorem dX6_init_153 : decode cX6_init 153 = .ok (.iastore, 1) := by decide +kernel
theorem dX6_init_154 : decode cX6_init 154 = .ok (.aload_n 0, 1) := by decide +kernel
theorem dX6_init_155 : decode cX6_init 155 = .ok (.getfield 7, 3) := by decide +kernel
theorem dX6_init_158 : decode cX6_init 158 = .ok (.iconst 3, 1) := by decide +kernel
theorem dX6_init_159 : decode cX6_init 159 = .ok (.iconst 3, 1) := by decide +kernel
theorem dX6_init_160 : decode cX6_init 160 = .ok (.iastore, 1) := by decide +kernel
theorem dX6_init_161 : decode cX6_init 161 = .ok (.aload_n 0, 1) := by decide +kernel
theorem dX6_init_162 : decode cX6_init 162 = .ok (.getfield 7, 3) := by decide +kernel
theorem dX6_init_165 : decode cX6_init 165 = .ok (.iconst 4, 1) := by decide +kernel
theorem dX6_init_166 : decode cX6_init 166 = .ok (.bipush 20, 2) := by decide +kernel
theorem dX6_init_168 : decode cX6_init 168 = .ok (.iastore, 1) := by decide +kernel
theorem dX6_init_169 : decode cX6_init 169 = .ok (.iconst 0, 1) := by decide +kernel
theorem dX6_init_170 : decode cX6_init 170 = .ok (.istore_n 1, 1) := by decide +kernel
theorem dX6_init_171 : decode cX6_init 171 = .ok (.iload_n 1, 1) := by decide +kernel
theorem dX6_init_172 : decode cX6_init 172 = .ok (.bipush 6, 2) := by decide +kernel
theorem dX6_init_174 : decode cX6_init 174 = .ok (.if_icmp .ge 20, 3) := by decide +kernel
theorem dX6_init_177 : decode cX6_init 177 = .ok (.aload_n 0, 1) := by decide +kernel
theorem dX6_init_178 : decode cX6_init 178 = .ok (.getfield 7, 3) := by decide +kernel
theorem dX6_init_181 : decode cX6_init 181 = .ok (.bipush 9, 2) := by decide +kernel
theorem dX6_init_183 : decode cX6_init 183 = .ok (.iload_n 1, 1) := by decide +kernel
theorem dX6_init_184 : decode cX6_init 184 = .ok (.iadd, 1) := by decide +kernel
theorem dX6_init_185 : decode cX6_init 185 = .ok (.bipush 60, 2) := by decide +kernel
theorem dX6_init_187 : decode cX6_init 187 = .ok (.iastore, 1) := by decide +kernel
theorem dX6_init_188 : decode cX6_init 188 = .ok (.iinc 1 1, 3) := by decide +kernel
theorem dX6_init_191 : decode cX6_init 191 = .ok (.goto (-20), 3) := by decide +kernel
theorem dX6_init_194 : decode cX6_init 194 = .ok (.iconst 0, 1) := by decide +kernel
theorem dX6_init_195 : decode cX6_init 195 = .ok (.istore_n 1, 1) := by decide +kernel
theorem dX6_init_196 : decode cX6_init 196 = .ok (.iload_n 1, 1) := by decide +kernel
theorem dX6_init_197 : decode cX6_init 197 = .ok (.iconst 4, 1) := by decide +kernel
theorem dX6_init_198 : decode cX6_init 198 = .ok (.if_icmp .ge 16, 3) := by decide +kernel
theorem dX6_init_201 : decode cX6_init 201 = .ok (.aload_n 0, 1) := by decide +kernel
theorem dX6_init_202 : decode cX6_init 202 = .ok (.getfield 19, 3) := by decide +kernel
theorem dX6_init_205 : decode cX6_init 205 = .ok (.iload_n 1, 1) := by decide +kernel
theorem dX6_init_206 : decode cX6_init 206 = .ok (.iconst (-1), 1) := by decide +kernel
theorem dX6_init_207 : decode cX6_init 207 = .ok (.iastore, 1) := by decide +kernel
theorem dX6_init_208 : decode cX6_init 208 = .ok (.iinc 1 1, 3) := by decide +kernel
theorem dX6_init_211 : decode cX6_init 211 = .ok (.goto (-15), 3) := by decide +kernel
theorem dX6_init_214 : decode cX6_init 214 = .ok (.return_, 1) := by decide +kernel
theorem dX6_isIn_0 : decode cX6_isIn 0 = .ok (.lload_n 0, 1) := by decide +kernel
theorem dX6_isIn_1 : decode cX6_isIn 1 = .ok (.lload_n 2, 1) := by decide +kernel
theorem dX6_isIn_2 : decode cX6_isIn 2 = .ok (.lcmp, 1) := by decide +kernel
theorem dX6_isIn_3 : decode cX6_isIn 3 = .ok (.ifCond .lt 14, 3) := by decide +kernel
theorem dX6_isIn_6 : decode cX6_isIn 6 = .ok (.lload_n 0, 1) := by decide +kernel
theorem dX6_isIn_7 : decode cX6_isIn 7 = .ok (.lload 4, 2) := by decide +kernel
theorem dX6_isIn_9 : decode cX6_isIn 9 = .ok (.lcmp, 1) := by decide +kernel
theorem dX6_isIn_10 : decode cX6_isIn 10 = .ok (.ifCond .gt 7, 3) := by decide +kernel
theorem dX6_isIn_13 : decode cX6_isIn 13 = .ok (.iconst 1, 1) := by decide +kernel
theorem dX6_isIn_14 : decode cX6_isIn 14 = .ok (.goto 4, 3) := by decide +kernel
theorem dX6_isIn_17 : decode cX6_isIn 17 = .ok (.iconst 0, 1) := by decide +kernel
theorem dX6_isIn_18 : decode cX6_isIn 18 = .ok (.ireturn, 1) := by decide +kernel
theorem dX6_orNone_0 : decode cX6_orNone 0 = .ok (.iload_n 0, 1) := by decide +kernel
theorem dX6_orNone_1 : decode cX6_orNone 1 = .ok (.ifCond .ge 8, 3) := by decide +kernel
theorem dX6_orNone_4 : decode cX6_orNone 4 = .ok (.ldc 64, 2) := by decide +kernel
theorem dX6_orNone_6 : decode cX6_orNone 6 = .ok (.goto 4, 3) := by decide +kernel
theorem dX6_orNone_9 : decode cX6_orNone 9 = .ok (.iload_n 0, 1) := by decide +kernel
theorem dX6_orNone_10 : decode cX6_orNone 10 = .ok (.ireturn, 1) := by decide +kernel
theorem dX6_within_0 : decode cX6_within 0 = .ok (.iload_n 0, 1) := by decide +kernel
theorem dX6_within_1 : decode cX6_within 1 = .ok (.ifCond .ge 7, 3) := by decide +kernel
theorem dX6_within_4 : decode cX6_within 4 = .ok (.iconst 0, 1) := by decide +kernel
theorem dX6_within_5 : decode cX6_within 5 = .ok (.goto 13, 3) := by decide +kernel
theorem dX6_within_8 : decode cX6_within 8 = .ok (.iload_n 0, 1) := by decide +kernel
theorem dX6_within_9 : decode cX6_within 9 = .ok (.iload_n 1, 1) := by decide +kernel
theorem dX6_within_10 : decode cX6_within 10 = .ok (.if_icmp .le 7, 3) := by decide +kernel
theorem dX6_within_13 : decode cX6_within 13 = .ok (.iload_n 1, 1) := by decide +kernel
theorem dX6_within_14 : decode cX6_within 14 = .ok (.goto 4, 3) := by decide +kernel
theorem dX6_within_17 : decode cX6_within 17 = .ok (.iload_n 0, 1) := by decide +kernel
theorem dX6_within_18 : decode cX6_within 18 = .ok (.ireturn, 1) := by decide +kernel
theorem dX6_off_0 : decode cX6_off 0 = .ok (.iload_n 0, 1) := by decide +kernel
theorem dX6_off_1 : decode cX6_off 1 = .ok (.iload_n 1, 1) := by decide +kernel
theorem dX6_off_2 : decode cX6_off 2 = .ok (.if_icmp .ge 9, 3) := by decide +kernel
theorem dX6_off_5 : decode cX6_off 5 = .ok (.iload_n 1, 1) := by decide +kernel
theorem dX6_off_6 : decode cX6_off 6 = .ok (.iload_n 0, 1) := by decide +kernel
theorem dX6_off_7 : decode cX6_off 7 = .ok (.isub, 1) := by decide +kernel
theorem dX6_off_8 : decode cX6_off 8 = .ok (.goto 6, 3) := by decide +kernel
theorem dX6_off_11 : decode cX6_off 11 = .ok (.iload_n 0, 1) := by decide +kernel
theorem dX6_off_12 : decode cX6_off 12 = .ok (.iload_n 1, 1) := by decide +kernel
theorem dX6_off_13 : decode cX6_off 13 = .ok (.isub, 1) := by decide +kernel
theorem dX6_off_14 : decode cX6_off 14 = .ok (.ireturn, 1) := by decide +kernel
theorem dX6_least_0 : decode cX6_least 0 = .ok (.iload_n 0, 1) := by decide +kernel
theorem dX6_least_1 : decode cX6_least 1 = .ok (.iload_n 1, 1) := by decide +kernel
theorem dX6_least_2 : decode cX6_least 2 = .ok (.if_icmp .ge 7, 3) := by decide +kernel
theorem dX6_least_5 : decode cX6_least 5 = .ok (.iload_n 0, 1) := by decide +kernel
theorem dX6_least_6 : decode cX6_least 6 = .ok (.goto 4, 3) := by decide +kernel
theorem dX6_least_9 : decode cX6_least 9 = .ok (.iload_n 1, 1) := by decide +kernel
theorem dX6_least_10 : decode cX6_least 10 = .ok (.ireturn, 1) := by decide +kernel
theorem dX6_changes_0 : decode cX6_changes 0 = .ok (.aload_n 0, 1) := by decide +kernel
theorem dX6_changes_1 : decode cX6_changes 1 = .ok (.getfield 7, 3) := by decide +kernel
theorem dX6_changes_4 : decode cX6_changes 4 = .ok (.iload_n 1, 1) := by decide +kernel
theorem dX6_changes_5 : decode cX6_changes 5 = .ok (.iaload, 1) := by decide +kernel
theorem dX6_changes_6 : decode cX6_changes 6 = .ok (.istore_n 3, 1) := by decide +kernel
theorem dX6_changes_7 : decode cX6_changes 7 = .ok (.aload_n 0, 1) := by decide +kernel
theorem dX6_changes_8 : decode cX6_changes 8 = .ok (.getfield 7, 3) := by decide +kernel
theorem dX6_changes_11 : decode cX6_changes 11 = .ok (.iload_n 1, 1) := by decide +kernel
theorem dX6_changes_12 : decode cX6_changes 12 = .ok (.iload_n 2, 1) := by decide +kernel
theorem dX6_changes_13 : decode cX6_changes 13 = .ok (.iastore, 1) := by decide +kernel
theorem dX6_changes_14 : decode cX6_changes 14 = .ok (.iload_n 3, 1) := by decide +kernel
theorem dX6_changes_15 : decode cX6_changes 15 = .ok (.ireturn, 1) := by decide +kernel
theorem dX6_textAt_0 : decode cX6_textAt 0 = .ok (.bipush 71, 2) := by decide +kernel
theorem dX6_textAt_2 : decode cX6_textAt 2 = .ok (.sipush 200, 3) := by decide +kernel
theorem dX6_textAt_5 : decode cX6_textAt 5 = .ok (.iload_n 1, 1) := by decide +kernel
theorem dX6_textAt_6 : decode cX6_textAt 6 = .ok (.imul, 1) := by decide +kernel
theorem dX6_textAt_7 : decode cX6_textAt 7 = .ok (.iadd, 1) := by decide +kernel
theorem dX6_textAt_8 : decode cX6_textAt 8 = .ok (.ireturn, 1) := by decide +kernel
theorem dX6_of_0 : decode cX6_of 0 = .ok (.aload_n 0, 1) := by decide +kernel
theorem dX6_of_1 : decode cX6_of 1 = .ok (.getfield 7, 3) := by decide +kernel
theorem dX6_of_4 : decode cX6_of 4 = .ok (.bipush 21, 2) := by decide +kernel
theorem dX6_of_6 : decode cX6_of 6 = .ok (.iconst 5, 1) := by decide +kernel
theorem dX6_of_7 : decode cX6_of 7 = .ok (.iload_n 1, 1) := by decide +kernel
theorem dX6_of_8 : decode cX6_of 8 = .ok (.imul, 1) := by decide +kernel
theorem dX6_of_9 : decode cX6_of 9 = .ok (.iadd, 1) := by decide +kernel
theorem dX6_of_10 : decode cX6_of 10 = .ok (.iload_n 2, 1) := by decide +kernel
theorem dX6_of_11 : decode cX6_of 11 = .ok (.iadd, 1) := by decide +kernel
theorem dX6_of_12 : decode cX6_of 12 = .ok (.iaload, 1) := by decide +kernel
theorem dX6_of_13 : decode cX6_of 13 = .ok (.ireturn, 1) := by decide +kernel
theorem dX6_sets_0 : decode cX6_sets 0 = .ok (.aload_n 0, 1) := by decide +kernel
theorem dX6_sets_1 : decode cX6_sets 1 = .ok (.getfield 7, 3) := by decide +kernel
theorem dX6_sets_4 : decode cX6_sets 4 = .ok (.bipush 21, 2) := by decide +kernel
theorem dX6_sets_6 : decode cX6_sets 6 = .ok (.iconst 5, 1) := by decide +kernel
theorem dX6_sets_7 : decode cX6_sets 7 = .ok (.iload_n 1, 1) := by decide +kernel
theorem dX6_sets_8 : decode cX6_sets 8 = .ok (.imul, 1) := by decide +kernel
theorem dX6_sets_9 : decode cX6_sets 9 = .ok (.iadd, 1) := by decide +kernel
theorem dX6_sets_10 : decode cX6_sets 10 = .ok (.iload_n 2, 1) := by decide +kernel
theorem dX6_sets_11 : decode cX6_sets 11 = .ok (.iadd, 1) := by decide +kernel
theorem dX6_sets_12 : decode cX6_sets 12 = .ok (.iload_n 3, 1) := by decide +kernel
theorem dX6_sets_13 : decode cX6_sets 13 = .ok (.iastore, 1) := by decide +kernel
theorem dX6_sets_14 : decode cX6_sets 14 = .ok (.return_, 1) := by decide +kernel
theorem dX6_isMark_0 : decode cX6_isMark 0 = .ok (.iload_n 1, 1) := by decide +kernel
theorem dX6_isMark_1 : decode cX6_isMark 1 = .ok (.i2l, 1) := by decide +kernel
theorem dX6_isMark_2 : decode cX6_isMark 2 = .ok (.lconst 0, 1) := by decide +kernel
theorem dX6_isMark_3 : decode cX6_isMark 3 = .ok (.aload_n 0, 1) := by decide +kernel
theorem dX6_isMark_4 : decode cX6_isMark 4 = .ok (.getfield 7, 3) := by decide +kernel
theorem dX6_isMark_7 : decode cX6_isMark 7 = .ok (.iconst 0, 1) := by decide +kernel
theorem dX6_isMark_8 : decode cX6_isMark 8 = .ok (.iaload, 1) := by decide +kernel
theorem dX6_isMark_9 : decode cX6_isMark 9 = .ok (.iconst 1, 1) := by decide +kernel
theorem dX6_isMark_10 : decode cX6_isMark 10 = .ok (.isub, 1) := by decide +kernel
theorem dX6_isMark_11 : decode cX6_isMark 11 = .ok (.i2l, 1) := by decide +kernel
theorem dX6_isMark_12 : decode cX6_isMark 12 = .ok (.invokestatic 65, 3) := by decide +kernel
theorem dX6_isMark_15 : decode cX6_isMark 15 = .ok (.ireturn, 1) := by decide +kernel
theorem dX6_isText_0 : decode cX6_isText 0 = .ok (.iload_n 1, 1) := by decide +kernel
theorem dX6_isText_1 : decode cX6_isText 1 = .ok (.i2l, 1) := by decide +kernel
theorem dX6_isText_2 : decode cX6_isText 2 = .ok (.lconst 0, 1) := by decide +kernel
theorem dX6_isText_3 : decode cX6_isText 3 = .ok (.aload_n 0, 1) := by decide +kernel
theorem dX6_isText_4 : decode cX6_isText 4 = .ok (.getfield 7, 3) := by decide +kernel
theorem dX6_isText_7 : decode cX6_isText 7 = .ok (.iconst 1, 1) := by decide +kernel
theorem dX6_isText_8 : decode cX6_isText 8 = .ok (.iaload, 1) := by decide +kernel
theorem dX6_isText_9 : decode cX6_isText 9 = .ok (.iconst 1, 1) := by decide +kernel
theorem dX6_isText_10 : decode cX6_isText 10 = .ok (.isub, 1) := by decide +kernel
theorem dX6_isText_11 : decode cX6_isText 11 = .ok (.i2l, 1) := by decide +kernel
theorem dX6_isText_12 : decode cX6_isText 12 = .ok (.invokestatic 65, 3) := by decide +kernel
theorem dX6_isText_15 : decode cX6_isText 15 = .ok (.ireturn, 1) := by decide +kernel
theorem dX6_drawn_0 : decode cX6_drawn 0 = .ok (.aload_n 0, 1) := by decide +kernel
theorem dX6_drawn_1 : decode cX6_drawn 1 = .ok (.getfield 7, 3) := by decide +kernel
theorem dX6_drawn_4 : decode cX6_drawn 4 = .ok (.bipush 8, 2) := by decide +kernel
theorem dX6_drawn_6 : decode cX6_drawn 6 = .ok (.aload_n 0, 1) := by decide +kernel
theorem dX6_drawn_7 : decode cX6_drawn 7 = .ok (.getfield 7, 3) := by decide +kernel
theorem dX6_drawn_10 : decode cX6_drawn 10 = .ok (.bipush 8, 2) := by decide +kernel
theorem dX6_drawn_12 : decode cX6_drawn 12 = .ok (.iaload, 1) := by decide +kernel
theorem dX6_drawn_13 : decode cX6_drawn 13 = .ok (.ldc 69, 2) := by decide +kernel
theorem dX6_drawn_15 : decode cX6_drawn 15 = .ok (.imul, 1) := by decide +kernel
theorem dX6_drawn_16 : decode cX6_drawn 16 = .ok (.sipush 12345, 3) := by decide +kernel
theorem dX6_drawn_19 : decode cX6_drawn 19 = .ok (.iadd, 1) := by decide +kernel
theorem dX6_drawn_20 : decode cX6_drawn 20 = .ok (.iastore, 1) := by decide +kernel
theorem dX6_drawn_21 : decode cX6_drawn 21 = .ok (.aload_n 0, 1) := by decide +kernel
theorem dX6_drawn_22 : decode cX6_drawn 22 = .ok (.getfield 7, 3) := by decide +kernel
theorem dX6_drawn_25 : decode cX6_drawn 25 = .ok (.bipush 8, 2) := by decide +kernel
theorem dX6_drawn_27 : decode cX6_drawn 27 = .ok (.iaload, 1) := by decide +kernel
theorem dX6_drawn_28 : decode cX6_drawn 28 = .ok (.bipush 8, 2) := by decide +kernel
theorem dX6_drawn_30 : decode cX6_drawn 30 = .ok (.iushr, 1) := by decide +kernel
theorem dX6_drawn_31 : decode cX6_drawn 31 = .ok (.ireturn, 1) := by decide +kernel
theorem dX6_isOf_0 : decode cX6_isOf 0 = .ok (.iload_n 0, 1) := by decide +kernel
theorem dX6_isOf_1 : decode cX6_isOf 1 = .ok (.iload_n 1, 1) := by decide +kernel
theorem dX6_isOf_2 : decode cX6_isOf 2 = .ok (.if_icmp .eq 27, 3) := by decide +kernel
theorem dX6_isOf_5 : decode cX6_isOf 5 = .ok (.iload_n 1, 1) := by decide +kernel
theorem dX6_isOf_6 : decode cX6_isOf 6 = .ok (.ifCond .eq 23, 3) := by decide +kernel
theorem dX6_isOf_9 : decode cX6_isOf 9 = .ok (.iload_n 1, 1) := by decide +kernel
theorem dX6_isOf_10 : decode cX6_isOf 10 = .ok (.iconst 1, 1) := by decide +kernel
theorem dX6_isOf_11 : decode cX6_isOf 11 = .ok (.if_icmp .ne 8, 3) := by decide +kernel
theorem dX6_isOf_14 : decode cX6_isOf 14 = .ok (.iload_n 0, 1) := by decide +kernel
theorem dX6_isOf_15 : decode cX6_isOf 15 = .ok (.iconst 3, 1) := by decide +kernel
theorem dX6_isOf_16 : decode cX6_isOf 16 = .ok (.if_icmp .eq 13, 3) := by decide +kernel
theorem dX6_isOf_19 : decode cX6_isOf 19 = .ok (.iload_n 1, 1) := by decide +kernel
theorem dX6_isOf_20 : decode cX6_isOf 20 = .ok (.iconst 2, 1) := by decide +kernel
theorem dX6_isOf_21 : decode cX6_isOf 21 = .ok (.if_icmp .ne 12, 3) := by decide +kernel
theorem dX6_isOf_24 : decode cX6_isOf 24 = .ok (.iload_n 0, 1) := by decide +kernel
theorem dX6_isOf_25 : decode cX6_isOf 25 = .ok (.iconst 4, 1) := by decide +kernel
theorem dX6_isOf_26 : decode cX6_isOf 26 = .ok (.if_icmp .ne 7, 3) := by decide +kernel
theorem dX6_isOf_29 : decode cX6_isOf 29 = .ok (.iconst 1, 1) := by decide +kernel
theorem dX6_isOf_30 : decode cX6_isOf 30 = .ok (.goto 4, 3) := by decide +kernel
theorem dX6_isOf_33 : decode cX6_isOf 33 = .ok (.iconst 0, 1) := by decide +kernel
theorem dX6_isOf_34 : decode cX6_isOf 34 = .ok (.ireturn, 1) := by decide +kernel
theorem dX6_isCell_0 : decode cX6_isCell 0 = .ok (.iload_n 0, 1) := by decide +kernel
theorem dX6_isCell_1 : decode cX6_isCell 1 = .ok (.i2l, 1) := by decide +kernel
theorem dX6_isCell_2 : decode cX6_isCell 2 = .ok (.lconst 0, 1) := by decide +kernel
theorem dX6_isCell_3 : decode cX6_isCell 3 = .ok (.ldc2_w 70, 3) := by decide +kernel
theorem dX6_isCell_6 : decode cX6_isCell 6 = .ok (.invokestatic 65, 3) := by decide +kernel
theorem dX6_isCell_9 : decode cX6_isCell 9 = .ok (.ireturn, 1) := by decide +kernel
theorem dX6_many_0 : decode cX6_many 0 = .ok (.iconst 0, 1) := by decide +kernel
theorem dX6_many_1 : decode cX6_many 1 = .ok (.istore_n 1, 1) := by decide +kernel
theorem dX6_many_2 : decode cX6_many 2 = .ok (.iload_n 0, 1) := by decide +kernel
theorem dX6_many_3 : decode cX6_many 3 = .ok (.istore_n 2, 1) := by decide +kernel
theorem dX6_many_4 : decode cX6_many 4 = .ok (.iload_n 2, 1) := by decide +kernel
theorem dX6_many_5 : decode cX6_many 5 = .ok (.ifCond .eq 15, 3) := by decide +kernel
theorem dX6_many_8 : decode cX6_many 8 = .ok (.iinc 1 1, 3) := by decide +kernel
theorem dX6_many_11 : decode cX6_many 11 = .ok (.iload_n 2, 1) := by decide +kernel
theorem dX6_many_12 : decode cX6_many 12 = .ok (.iload_n 2, 1) := by decide +kernel
theorem dX6_many_13 : decode cX6_many 13 = .ok (.iconst 1, 1) := by decide +kernel
theorem dX6_many_14 : decode cX6_many 14 = .ok (.isub, 1) := by decide +kernel
theorem dX6_many_15 : decode cX6_many 15 = .ok (.iand, 1) := by decide +kernel
theorem dX6_many_16 : decode cX6_many 16 = .ok (.istore_n 2, 1) := by decide +kernel
theorem dX6_many_17 : decode cX6_many 17 = .ok (.goto (-13), 3) := by decide +kernel
theorem dX6_many_20 : decode cX6_many 20 = .ok (.iload_n 1, 1) := by decide +kernel
theorem dX6_many_21 : decode cX6_many 21 = .ok (.ireturn, 1) := by decide +kernel
theorem dX6_marksIn_0 : decode cX6_marksIn 0 = .ok (.iconst 0, 1) := by decide +kernel
theorem dX6_marksIn_1 : decode cX6_marksIn 1 = .ok (.istore_n 2, 1) := by decide +kernel
theorem dX6_marksIn_2 : decode cX6_marksIn 2 = .ok (.iconst 0, 1) := by decide +kernel
theorem dX6_marksIn_3 : decode cX6_marksIn 3 = .ok (.istore_n 3, 1) := by decide +kernel
theorem dX6_marksIn_4 : decode cX6_marksIn 4 = .ok (.iload_n 3, 1) := by decide +kernel
theorem dX6_marksIn_5 : decode cX6_marksIn 5 = .ok (.aload_n 0, 1) := by decide +kernel
theorem dX6_marksIn_6 : decode cX6_marksIn 6 = .ok (.getfield 7, 3) := by decide +kernel
theorem dX6_marksIn_9 : decode cX6_marksIn 9 = .ok (.iconst 0, 1) := by decide +kernel
theorem dX6_marksIn_10 : decode cX6_marksIn 10 = .ok (.iaload, 1) := by decide +kernel
theorem dX6_marksIn_11 : decode cX6_marksIn 11 = .ok (.if_icmp .ge 29, 3) := by decide +kernel
theorem dX6_marksIn_14 : decode cX6_marksIn 14 = .ok (.iload_n 2, 1) := by decide +kernel
theorem dX6_marksIn_15 : decode cX6_marksIn 15 = .ok (.aload_n 0, 1) := by decide +kernel
theorem dX6_marksIn_16 : decode cX6_marksIn 16 = .ok (.iload_n 3, 1) := by decide +kernel
theorem dX6_marksIn_17 : decode cX6_marksIn 17 = .ok (.iconst 3, 1) := by decide +kernel
theorem dX6_marksIn_18 : decode cX6_marksIn 18 = .ok (.invokevirtual 72, 3) := by decide +kernel
theorem dX6_marksIn_21 : decode cX6_marksIn 21 = .ok (.iload_n 1, 1) := by decide +kernel
theorem dX6_marksIn_22 : decode cX6_marksIn 22 = .ok (.if_icmp .ne 9, 3) := by decide +kernel
theorem dX6_marksIn_25 : decode cX6_marksIn 25 = .ok (.iconst 1, 1) := by decide +kernel
theorem dX6_marksIn_26 : decode cX6_marksIn 26 = .ok (.iload_n 3, 1) := by decide +kernel
theorem dX6_marksIn_27 : decode cX6_marksIn 27 = .ok (.ishl, 1) := by decide +kernel
theorem dX6_marksIn_28 : decode cX6_marksIn 28 = .ok (.goto 4, 3) := by decide +kernel
theorem dX6_marksIn_31 : decode cX6_marksIn 31 = .ok (.iconst 0, 1) := by decide +kernel
theorem dX6_marksIn_32 : decode cX6_marksIn 32 = .ok (.ior, 1) := by decide +kernel
theorem dX6_marksIn_33 : decode cX6_marksIn 33 = .ok (.istore_n 2, 1) := by decide +kernel
theorem dX6_marksIn_34 : decode cX6_marksIn 34 = .ok (.iinc 3 1, 3) := by decide +kernel
theorem dX6_marksIn_37 : decode cX6_marksIn 37 = .ok (.goto (-33), 3) := by decide +kernel
theorem dX6_marksIn_40 : decode cX6_marksIn 40 = .ok (.iload_n 2, 1) := by decide +kernel
theorem dX6_marksIn_41 : decode cX6_marksIn 41 = .ok (.ireturn, 1) := by decide +kernel
theorem dX6_plain_0 : decode cX6_plain 0 = .ok (.aload_n 0, 1) := by decide +kernel
theorem dX6_plain_1 : decode cX6_plain 1 = .ok (.iconst 0, 1) := by decide +kernel
theorem dX6_plain_2 : decode cX6_plain 2 = .ok (.invokevirtual 76, 3) := by decide +kernel
theorem dX6_plain_5 : decode cX6_plain 5 = .ok (.istore_n 2, 1) := by decide +kernel
theorem dX6_plain_6 : decode cX6_plain 6 = .ok (.iload_n 2, 1) := by decide +kernel
theorem dX6_plain_7 : decode cX6_plain 7 = .ok (.ifCond .ge 22, 3) := by decide +kernel
theorem dX6_plain_10 : decode cX6_plain 10 = .ok (.aload_n 0, 1) := by decide +kernel
theorem dX6_plain_11 : decode cX6_plain 11 = .ok (.iload_n 1, 1) := by decide +kernel
theorem dX6_plain_12 : decode cX6_plain 12 = .ok (.iconst 1, 1) := by decide +kernel
theorem dX6_plain_13 : decode cX6_plain 13 = .ok (.invokevirtual 72, 3) := by decide +kernel
theorem dX6_plain_16 : decode cX6_plain 16 = .ok (.aload_n 0, 1) := by decide +kernel
theorem dX6_plain_17 : decode cX6_plain 17 = .ok (.iload_n 1, 1) := by decide +kernel
theorem dX6_plain_18 : decode cX6_plain 18 = .ok (.iconst 2, 1) := by decide +kernel
theorem dX6_plain_19 : decode cX6_plain 19 = .ok (.invokevirtual 72, 3) := by decide +kernel
theorem dX6_plain_22 : decode cX6_plain 22 = .ok (.isub, 1) := by decide +kernel
theorem dX6_plain_23 : decode cX6_plain 23 = .ok (.bipush 99, 2) := by decide +kernel
theorem dX6_plain_25 : decode cX6_plain 25 = .ok (.invokestatic 80, 3) := by decide +kernel
theorem dX6_plain_28 : decode cX6_plain 28 = .ok (.ireturn, 1) := by decide +kernel
theorem dX6_plain_29 : decode cX6_plain 29 = .ok (.aload_n 0, 1) := by decide +kernel
theorem dX6_plain_30 : decode cX6_plain 30 = .ok (.getfield 49, 3) := by decide +kernel
theorem dX6_plain_33 : decode cX6_plain 33 = .ok (.bipush 105, 2) := by decide +kernel
theorem dX6_plain_35 : decode cX6_plain 35 = .ok (.aload_n 0, 1) := by decide +kernel
theorem dX6_plain_36 : decode cX6_plain 36 = .ok (.iload_n 1, 1) := by decide +kernel
theorem dX6_plain_37 : decode cX6_plain 37 = .ok (.iconst 1, 1) := by decide +kernel
theorem dX6_plain_38 : decode cX6_plain 38 = .ok (.invokevirtual 72, 3) := by decide +kernel
theorem dX6_plain_41 : decode cX6_plain 41 = .ok (.iastore, 1) := by decide +kernel
theorem dX6_plain_42 : decode cX6_plain 42 = .ok (.aload_n 0, 1) := by decide +kernel
theorem dX6_plain_43 : decode cX6_plain 43 = .ok (.getfield 49, 3) := by decide +kernel
theorem dX6_plain_46 : decode cX6_plain 46 = .ok (.bipush 100, 2) := by decide +kernel
theorem dX6_plain_48 : decode cX6_plain 48 = .ok (.aload_n 0, 1) := by decide +kernel
theorem dX6_plain_49 : decode cX6_plain 49 = .ok (.iload_n 1, 1) := by decide +kernel
theorem dX6_plain_50 : decode cX6_plain 50 = .ok (.iconst 2, 1) := by decide +kernel
theorem dX6_plain_51 : decode cX6_plain 51 = .ok (.invokevirtual 72, 3) := by decide +kernel
theorem dX6_plain_54 : decode cX6_plain 54 = .ok (.iastore, 1) := by decide +kernel
theorem dX6_plain_55 : decode cX6_plain 55 = .ok (.aload_n 0, 1) := by decide +kernel
theorem dX6_plain_56 : decode cX6_plain 56 = .ok (.getfield 49, 3) := by decide +kernel
theorem dX6_plain_59 : decode cX6_plain 59 = .ok (.bipush 99, 2) := by decide +kernel
theorem dX6_plain_61 : decode cX6_plain 61 = .ok (.aload_n 0, 1) := by decide +kernel
theorem dX6_plain_62 : decode cX6_plain 62 = .ok (.getfield 7, 3) := by decide +kernel
theorem dX6_plain_65 : decode cX6_plain 65 = .ok (.bipush 15, 2) := by decide +kernel
theorem dX6_plain_67 : decode cX6_plain 67 = .ok (.aload_n 0, 1) := by decide +kernel
theorem dX6_plain_68 : decode cX6_plain 68 = .ok (.iload_n 1, 1) := by decide +kernel
theorem dX6_plain_69 : decode cX6_plain 69 = .ok (.iconst 3, 1) := by decide +kernel
theorem dX6_plain_70 : decode cX6_plain 70 = .ok (.invokevirtual 72, 3) := by decide +kernel
theorem dX6_plain_73 : decode cX6_plain 73 = .ok (.iadd, 1) := by decide +kernel
theorem dX6_plain_74 : decode cX6_plain 74 = .ok (.iaload, 1) := by decide +kernel
theorem dX6_plain_75 : decode cX6_plain 75 = .ok (.iastore, 1) := by decide +kernel
theorem dX6_plain_76 : decode cX6_plain 76 = .ok (.aload_n 0, 1) := by decide +kernel
theorem dX6_plain_77 : decode cX6_plain 77 = .ok (.getfield 49, 3) := by decide +kernel
theorem dX6_plain_80 : decode cX6_plain 80 = .ok (.bipush 110, 2) := by decide +kernel
theorem dX6_plain_82 : decode cX6_plain 82 = .ok (.aload_n 0, 1) := by decide +kernel
theorem dX6_plain_83 : decode cX6_plain 83 = .ok (.aload_n 0, 1) := by decide +kernel
theorem dX6_plain_84 : decode cX6_plain 84 = .ok (.iload_n 1, 1) := by decide +kernel
theorem dX6_plain_85 : decode cX6_plain 85 = .ok (.iconst 3, 1) := by decide +kernel
theorem dX6_plain_86 : decode cX6_plain 86 = .ok (.invokevirtual 72, 3) := by decide +kernel
theorem dX6_plain_89 : decode cX6_plain 89 = .ok (.invokevirtual 83, 3) := by decide +kernel
theorem dX6_plain_92 : decode cX6_plain 92 = .ok (.invokestatic 86, 3) := by decide +kernel
theorem dX6_plain_95 : decode cX6_plain 95 = .ok (.iastore, 1) := by decide +kernel
theorem dX6_plain_96 : decode cX6_plain 96 = .ok (.aload_n 0, 1) := by decide +kernel
theorem dX6_plain_97 : decode cX6_plain 97 = .ok (.iload_n 2, 1) := by decide +kernel
theorem dX6_plain_98 : decode cX6_plain 98 = .ok (.invokevirtual 89, 3) := by decide +kernel
theorem dX6_plain_101 : decode cX6_plain 101 = .ok (.bipush 99, 2) := by decide +kernel
theorem dX6_plain_103 : decode cX6_plain 103 = .ok (.invokestatic 80, 3) := by decide +kernel
theorem dX6_plain_106 : decode cX6_plain 106 = .ok (.ireturn, 1) := by decide +kernel
theorem dX6_shows_0 : decode cX6_shows 0 = .ok (.aload_n 0, 1) := by decide +kernel
theorem dX6_shows_1 : decode cX6_shows 1 = .ok (.iload_n 1, 1) := by decide +kernel
theorem dX6_shows_2 : decode cX6_shows 2 = .ok (.invokevirtual 92, 3) := by decide +kernel
theorem dX6_shows_5 : decode cX6_shows 5 = .ok (.istore_n 2, 1) := by decide +kernel
theorem dX6_shows_6 : decode cX6_shows 6 = .ok (.bipush 99, 2) := by decide +kernel
theorem dX6_shows_8 : decode cX6_shows 8 = .ok (.iload_n 2, 1) := by decide +kernel
theorem dX6_shows_9 : decode cX6_shows 9 = .ok (.iconst 2, 1) := by decide +kernel
theorem dX6_shows_10 : decode cX6_shows 10 = .ok (.aload_n 0, 1) := by decide +kernel
theorem dX6_shows_11 : decode cX6_shows 11 = .ok (.aload_n 0, 1) := by decide +kernel
theorem dX6_shows_12 : decode cX6_shows 12 = .ok (.iload_n 1, 1) := by decide +kernel
theorem dX6_shows_13 : decode cX6_shows 13 = .ok (.iconst 3, 1) := by decide +kernel
theorem dX6_shows_14 : decode cX6_shows 14 = .ok (.invokevirtual 72, 3) := by decide +kernel
theorem dX6_shows_17 : decode cX6_shows 17 = .ok (.invokevirtual 83, 3) := by decide +kernel
theorem dX6_shows_20 : decode cX6_shows 20 = .ok (.invokestatic 86, 3) := by decide +kernel
theorem dX6_shows_23 : decode cX6_shows 23 = .ok (.iconst 1, 1) := by decide +kernel
theorem dX6_shows_24 : decode cX6_shows 24 = .ok (.isub, 1) := by decide +kernel
theorem dX6_shows_25 : decode cX6_shows 25 = .ok (.imul, 1) := by decide +kernel
theorem dX6_shows_26 : decode cX6_shows 26 = .ok (.iadd, 1) := by decide +kernel
theorem dX6_shows_27 : decode cX6_shows 27 = .ok (.invokestatic 95, 3) := by decide +kernel
theorem dX6_shows_30 : decode cX6_shows 30 = .ok (.istore_n 3, 1) := by decide +kernel
theorem dX6_shows_31 : decode cX6_shows 31 = .ok (.aload_n 0, 1) := by decide +kernel
theorem dX6_shows_32 : decode cX6_shows 32 = .ok (.iload_n 1, 1) := by decide +kernel
theorem dX6_shows_33 : decode cX6_shows 33 = .ok (.iconst 0, 1) := by decide +kernel
theorem dX6_shows_34 : decode cX6_shows 34 = .ok (.invokevirtual 72, 3) := by decide +kernel
theorem dX6_shows_37 : decode cX6_shows 37 = .ok (.tableswitch 70 1 5 #[35, 44, 46, 57, 67], 35) := by decide +kernel
theorem dX6_shows_72 : decode cX6_shows 72 = .ok (.bipush 99, 2) := by decide +kernel
theorem dX6_shows_74 : decode cX6_shows 74 = .ok (.iload_n 2, 1) := by decide +kernel
theorem dX6_shows_75 : decode cX6_shows 75 = .ok (.iconst 5, 1) := by decide +kernel
theorem dX6_shows_76 : decode cX6_shows 76 = .ok (.iadd, 1) := by decide +kernel
theorem dX6_shows_77 : decode cX6_shows 77 = .ok (.invokestatic 95, 3) := by decide +kernel
theorem dX6_shows_80 : decode cX6_shows 80 = .ok (.ireturn, 1) := by decide +kernel
theorem dX6_shows_81 : decode cX6_shows 81 = .ok (.iload_n 3, 1) := by decide +kernel
theorem dX6_shows_82 : decode cX6_shows 82 = .ok (.ireturn, 1) := by decide +kernel
theorem dX6_shows_83 : decode cX6_shows 83 = .ok (.bipush 99, 2) := by decide +kernel
theorem dX6_shows_85 : decode cX6_shows 85 = .ok (.iload_n 2, 1) := by decide +kernel
theorem dX6_shows_86 : decode cX6_shows 86 = .ok (.iconst 5, 1) := by decide +kernel
theorem dX6_shows_87 : decode cX6_shows 87 = .ok (.iadd, 1) := by decide +kernel
theorem dX6_shows_88 : decode cX6_shows 88 = .ok (.invokestatic 95, 3) := by decide +kernel
theorem dX6_shows_91 : decode cX6_shows 91 = .ok (.iconst 2, 1) := by decide +kernel
theorem dX6_shows_92 : decode cX6_shows 92 = .ok (.idiv, 1) := by decide +kernel
theorem dX6_shows_93 : decode cX6_shows 93 = .ok (.ireturn, 1) := by decide +kernel
theorem dX6_shows_94 : decode cX6_shows 94 = .ok (.iload_n 3, 1) := by decide +kernel
theorem dX6_shows_95 : decode cX6_shows 95 = .ok (.bipush 10, 2) := by decide +kernel
theorem dX6_shows_97 : decode cX6_shows 97 = .ok (.isub, 1) := by decide +kernel
theorem dX6_shows_98 : decode cX6_shows 98 = .ok (.bipush 99, 2) := by decide +kernel
theorem dX6_shows_100 : decode cX6_shows 100 = .ok (.invokestatic 80, 3) := by decide +kernel
theorem dX6_shows_103 : decode cX6_shows 103 = .ok (.ireturn, 1) := by decide +kernel
theorem dX6_shows_104 : decode cX6_shows 104 = .ok (.bipush 20, 2) := by decide +kernel
theorem dX6_shows_106 : decode cX6_shows 106 = .ok (.ireturn, 1) := by decide +kernel
theorem dX6_shows_107 : decode cX6_shows 107 = .ok (.iload_n 2, 1) := by decide +kernel
theorem dX6_shows_108 : decode cX6_shows 108 = .ok (.ireturn, 1) := by decide +kernel
theorem dX6_sinks_0 : decode cX6_sinks 0 = .ok (.aload_n 0, 1) := by decide +kernel
theorem dX6_sinks_1 : decode cX6_sinks 1 = .ok (.getfield 7, 3) := by decide +kernel
theorem dX6_sinks_4 : decode cX6_sinks 4 = .ok (.bipush 9, 2) := by decide +kernel
theorem dX6_sinks_6 : decode cX6_sinks 6 = .ok (.aload_n 0, 1) := by decide +kernel
theorem dX6_sinks_7 : decode cX6_sinks 7 = .ok (.iload_n 1, 1) := by decide +kernel
theorem dX6_sinks_8 : decode cX6_sinks 8 = .ok (.iconst 3, 1) := by decide +kernel
theorem dX6_sinks_9 : decode cX6_sinks 9 = .ok (.invokevirtual 72, 3) := by decide +kernel
theorem dX6_sinks_12 : decode cX6_sinks 12 = .ok (.iadd, 1) := by decide +kernel
theorem dX6_sinks_13 : decode cX6_sinks 13 = .ok (.iaload, 1) := by decide +kernel
theorem dX6_sinks_14 : decode cX6_sinks 14 = .ok (.bipush 30, 2) := by decide +kernel
theorem dX6_sinks_16 : decode cX6_sinks 16 = .ok (.if_icmp .ge 7, 3) := by decide +kernel
theorem dX6_sinks_19 : decode cX6_sinks 19 = .ok (.iconst 2, 1) := by decide +kernel
theorem dX6_sinks_20 : decode cX6_sinks 20 = .ok (.goto 4, 3) := by decide +kernel
theorem dX6_sinks_23 : decode cX6_sinks 23 = .ok (.iconst 1, 1) := by decide +kernel
theorem dX6_sinks_24 : decode cX6_sinks 24 = .ok (.istore_n 2, 1) := by decide +kernel
theorem dX6_sinks_25 : decode cX6_sinks 25 = .ok (.aload_n 0, 1) := by decide +kernel
theorem dX6_sinks_26 : decode cX6_sinks 26 = .ok (.iload_n 1, 1) := by decide +kernel
theorem dX6_sinks_27 : decode cX6_sinks 27 = .ok (.iconst 0, 1) := by decide +kernel
theorem dX6_sinks_28 : decode cX6_sinks 28 = .ok (.invokevirtual 72, 3) := by decide +kernel
theorem dX6_sinks_31 : decode cX6_sinks 31 = .ok (.tableswitch 39 2 5 #[29, 31, 33, 37], 29) := by decide +kernel
theorem dX6_sinks_60 : decode cX6_sinks 60 = .ok (.iload_n 2, 1) := by decide +kernel
theorem dX6_sinks_61 : decode cX6_sinks 61 = .ok (.ireturn, 1) := by decide +kernel
theorem dX6_sinks_62 : decode cX6_sinks 62 = .ok (.iconst 2, 1) := by decide +kernel
theorem dX6_sinks_63 : decode cX6_sinks 63 = .ok (.ireturn, 1) := by decide +kernel
theorem dX6_sinks_64 : decode cX6_sinks 64 = .ok (.iload_n 2, 1) := by decide +kernel
theorem dX6_sinks_65 : decode cX6_sinks 65 = .ok (.iconst 1, 1) := by decide +kernel
theorem dX6_sinks_66 : decode cX6_sinks 66 = .ok (.iadd, 1) := by decide +kernel
theorem dX6_sinks_67 : decode cX6_sinks 67 = .ok (.ireturn, 1) := by decide +kernel
theorem dX6_sinks_68 : decode cX6_sinks 68 = .ok (.iconst 0, 1) := by decide +kernel
theorem dX6_sinks_69 : decode cX6_sinks 69 = .ok (.ireturn, 1) := by decide +kernel
theorem dX6_sinks_70 : decode cX6_sinks 70 = .ok (.iconst 1, 1) := by decide +kernel
theorem dX6_sinks_71 : decode cX6_sinks 71 = .ok (.ireturn, 1) := by decide +kernel
theorem dX6_fades_0 : decode cX6_fades 0 = .ok (.aload_n 0, 1) := by decide +kernel
theorem dX6_fades_1 : decode cX6_fades 1 = .ok (.iload_n 1, 1) := by decide +kernel
theorem dX6_fades_2 : decode cX6_fades 2 = .ok (.iconst 0, 1) := by decide +kernel
theorem dX6_fades_3 : decode cX6_fades 3 = .ok (.invokevirtual 72, 3) := by decide +kernel
theorem dX6_fades_6 : decode cX6_fades 6 = .ok (.tableswitch 36 2 5 #[30, 32, 32, 34], 30) := by decide +kernel
theorem dX6_fades_36 : decode cX6_fades 36 = .ok (.iconst 0, 1) := by decide +kernel
theorem dX6_fades_37 : decode cX6_fades 37 = .ok (.ireturn, 1) := by decide +kernel
theorem dX6_fades_38 : decode cX6_fades 38 = .ok (.iconst 3, 1) := by decide +kernel
theorem dX6_fades_39 : decode cX6_fades 39 = .ok (.ireturn, 1) := by decide +kernel
theorem dX6_fades_40 : decode cX6_fades 40 = .ok (.iconst 5, 1) := by decide +kernel
theorem dX6_fades_41 : decode cX6_fades 41 = .ok (.ireturn, 1) := by decide +kernel
theorem dX6_fades_42 : decode cX6_fades 42 = .ok (.iconst 1, 1) := by decide +kernel
theorem dX6_fades_43 : decode cX6_fades 43 = .ok (.ireturn, 1) := by decide +kernel
theorem dX6_worth_0 : decode cX6_worth 0 = .ok (.aload_n 0, 1) := by decide +kernel
theorem dX6_worth_1 : decode cX6_worth 1 = .ok (.iload_n 1, 1) := by decide +kernel
theorem dX6_worth_2 : decode cX6_worth 2 = .ok (.iconst 1, 1) := by decide +kernel
theorem dX6_worth_3 : decode cX6_worth 3 = .ok (.invokevirtual 72, 3) := by decide +kernel
theorem dX6_worth_6 : decode cX6_worth 6 = .ok (.aload_n 0, 1) := by decide +kernel
theorem dX6_worth_7 : decode cX6_worth 7 = .ok (.iload_n 1, 1) := by decide +kernel
theorem dX6_worth_8 : decode cX6_worth 8 = .ok (.iconst 4, 1) := by decide +kernel
theorem dX6_worth_9 : decode cX6_worth 9 = .ok (.invokevirtual 72, 3) := by decide +kernel
theorem dX6_worth_12 : decode cX6_worth 12 = .ok (.iadd, 1) := by decide +kernel
theorem dX6_worth_13 : decode cX6_worth 13 = .ok (.istore_n 2, 1) := by decide +kernel
theorem dX6_worth_14 : decode cX6_worth 14 = .ok (.aload_n 0, 1) := by decide +kernel
theorem dX6_worth_15 : decode cX6_worth 15 = .ok (.iload_n 1, 1) := by decide +kernel
theorem dX6_worth_16 : decode cX6_worth 16 = .ok (.iconst 0, 1) := by decide +kernel
theorem dX6_worth_17 : decode cX6_worth 17 = .ok (.invokevirtual 72, 3) := by decide +kernel
theorem dX6_worth_20 : decode cX6_worth 20 = .ok (.tableswitch 72 1 5 #[36, 38, 48, 52, 65], 36) := by decide +kernel
theorem dX6_worth_56 : decode cX6_worth 56 = .ok (.iload_n 2, 1) := by decide +kernel
theorem dX6_worth_57 : decode cX6_worth 57 = .ok (.ireturn, 1) := by decide +kernel
theorem dX6_worth_58 : decode cX6_worth 58 = .ok (.bipush 99, 2) := by decide +kernel
theorem dX6_worth_60 : decode cX6_worth 60 = .ok (.aload_n 0, 1) := by decide +kernel
theorem dX6_worth_61 : decode cX6_worth 61 = .ok (.iload_n 1, 1) := by decide +kernel
theorem dX6_worth_62 : decode cX6_worth 62 = .ok (.iconst 1, 1) := by decide +kernel
theorem dX6_worth_63 : decode cX6_worth 63 = .ok (.invokevirtual 72, 3) := by decide +kernel
theorem dX6_worth_66 : decode cX6_worth 66 = .ok (.isub, 1) := by decide +kernel
theorem dX6_worth_67 : decode cX6_worth 67 = .ok (.ireturn, 1) := by decide +kernel
theorem dX6_worth_68 : decode cX6_worth 68 = .ok (.iload_n 2, 1) := by decide +kernel
theorem dX6_worth_69 : decode cX6_worth 69 = .ok (.iconst 2, 1) := by decide +kernel
theorem dX6_worth_70 : decode cX6_worth 70 = .ok (.idiv, 1) := by decide +kernel
theorem dX6_worth_71 : decode cX6_worth 71 = .ok (.ireturn, 1) := by decide +kernel
theorem dX6_worth_72 : decode cX6_worth 72 = .ok (.bipush 99, 2) := by decide +kernel
theorem dX6_worth_74 : decode cX6_worth 74 = .ok (.aload_n 0, 1) := by decide +kernel
theorem dX6_worth_75 : decode cX6_worth 75 = .ok (.iload_n 1, 1) := by decide +kernel
theorem dX6_worth_76 : decode cX6_worth 76 = .ok (.iconst 1, 1) := by decide +kernel
theorem dX6_worth_77 : decode cX6_worth 77 = .ok (.invokevirtual 72, 3) := by decide +kernel
theorem dX6_worth_80 : decode cX6_worth 80 = .ok (.isub, 1) := by decide +kernel
theorem dX6_worth_81 : decode cX6_worth 81 = .ok (.bipush 7, 2) := by decide +kernel
theorem dX6_worth_83 : decode cX6_worth 83 = .ok (.iadd, 1) := by decide +kernel
theorem dX6_worth_84 : decode cX6_worth 84 = .ok (.ireturn, 1) := by decide +kernel
theorem dX6_worth_85 : decode cX6_worth 85 = .ok (.aload_n 0, 1) := by decide +kernel
theorem dX6_worth_86 : decode cX6_worth 86 = .ok (.iload_n 1, 1) := by decide +kernel
theorem dX6_worth_87 : decode cX6_worth 87 = .ok (.iconst 4, 1) := by decide +kernel
theorem dX6_worth_88 : decode cX6_worth 88 = .ok (.invokevirtual 72, 3) := by decide +kernel
theorem dX6_worth_91 : decode cX6_worth 91 = .ok (.ireturn, 1) := by decide +kernel
theorem dX6_worth_92 : decode cX6_worth 92 = .ok (.aload_n 0, 1) := by decide +kernel
theorem dX6_worth_93 : decode cX6_worth 93 = .ok (.iload_n 1, 1) := by decide +kernel
theorem dX6_worth_94 : decode cX6_worth 94 = .ok (.iconst 1, 1) := by decide +kernel
theorem dX6_worth_95 : decode cX6_worth 95 = .ok (.invokevirtual 72, 3) := by decide +kernel
theorem dX6_worth_98 : decode cX6_worth 98 = .ok (.ireturn, 1) := by decide +kernel
theorem dX6_comes_0 : decode cX6_comes 0 = .ok (.aload_n 0, 1) := by decide +kernel
theorem dX6_comes_1 : decode cX6_comes 1 = .ok (.getfield 7, 3) := by decide +kernel
theorem dX6_comes_4 : decode cX6_comes 4 = .ok (.iconst 0, 1) := by decide +kernel
theorem dX6_comes_5 : decode cX6_comes 5 = .ok (.iaload, 1) := by decide +kernel
theorem dX6_comes_6 : decode cX6_comes 6 = .ok (.istore 5, 2) := by decide +kernel
theorem dX6_comes_8 : decode cX6_comes 8 = .ok (.aload_n 0, 1) := by decide +kernel
theorem dX6_comes_9 : decode cX6_comes 9 = .ok (.getfield 7, 3) := by decide +kernel
theorem dX6_comes_12 : decode cX6_comes 12 = .ok (.iconst 0, 1) := by decide +kernel
theorem dX6_comes_13 : decode cX6_comes 13 = .ok (.dup2, 1) := by decide +kernel
theorem dX6_comes_14 : decode cX6_comes 14 = .ok (.iaload, 1) := by decide +kernel
theorem dX6_comes_15 : decode cX6_comes 15 = .ok (.iconst 1, 1) := by decide +kernel
theorem dX6_comes_16 : decode cX6_comes 16 = .ok (.iadd, 1) := by decide +kernel
theorem dX6_comes_17 : decode cX6_comes 17 = .ok (.iastore, 1) := by decide +kernel
theorem dX6_comes_18 : decode cX6_comes 18 = .ok (.aload_n 0, 1) := by decide +kernel
theorem dX6_comes_19 : decode cX6_comes 19 = .ok (.iload 5, 2) := by decide +kernel
theorem dX6_comes_21 : decode cX6_comes 21 = .ok (.iconst 0, 1) := by decide +kernel
theorem dX6_comes_22 : decode cX6_comes 22 = .ok (.iload_n 1, 1) := by decide +kernel
theorem dX6_comes_23 : decode cX6_comes 23 = .ok (.invokevirtual 98, 3) := by decide +kernel
theorem dX6_comes_26 : decode cX6_comes 26 = .ok (.aload_n 0, 1) := by decide +kernel
theorem dX6_comes_27 : decode cX6_comes 27 = .ok (.iload 5, 2) := by decide +kernel
theorem dX6_comes_29 : decode cX6_comes 29 = .ok (.iconst 1, 1) := by decide +kernel
theorem dX6_comes_30 : decode cX6_comes 30 = .ok (.iload_n 2, 1) := by decide +kernel
theorem dX6_comes_31 : decode cX6_comes 31 = .ok (.invokevirtual 98, 3) := by decide +kernel
theorem dX6_comes_34 : decode cX6_comes 34 = .ok (.aload_n 0, 1) := by decide +kernel
theorem dX6_comes_35 : decode cX6_comes 35 = .ok (.iload 5, 2) := by decide +kernel
theorem dX6_comes_37 : decode cX6_comes 37 = .ok (.iconst 2, 1) := by decide +kernel
theorem dX6_comes_38 : decode cX6_comes 38 = .ok (.iload_n 3, 1) := by decide +kernel
theorem dX6_comes_39 : decode cX6_comes 39 = .ok (.invokevirtual 98, 3) := by decide +kernel
theorem dX6_comes_42 : decode cX6_comes 42 = .ok (.aload_n 0, 1) := by decide +kernel
theorem dX6_comes_43 : decode cX6_comes 43 = .ok (.iload 5, 2) := by decide +kernel
theorem dX6_comes_45 : decode cX6_comes 45 = .ok (.iconst 3, 1) := by decide +kernel
theorem dX6_comes_46 : decode cX6_comes 46 = .ok (.iload 4, 2) := by decide +kernel
theorem dX6_comes_48 : decode cX6_comes 48 = .ok (.invokevirtual 98, 3) := by decide +kernel
theorem dX6_comes_51 : decode cX6_comes 51 = .ok (.aload_n 0, 1) := by decide +kernel
theorem dX6_comes_52 : decode cX6_comes 52 = .ok (.iload 5, 2) := by decide +kernel
theorem dX6_comes_54 : decode cX6_comes 54 = .ok (.iconst 4, 1) := by decide +kernel
theorem dX6_comes_55 : decode cX6_comes 55 = .ok (.iconst 0, 1) := by decide +kernel
theorem dX6_comes_56 : decode cX6_comes 56 = .ok (.invokevirtual 98, 3) := by decide +kernel
theorem dX6_comes_59 : decode cX6_comes 59 = .ok (.return_, 1) := by decide +kernel
theorem dX6_writes_0 : decode cX6_writes 0 = .ok (.iload_n 1, 1) := by decide +kernel
theorem dX6_writes_1 : decode cX6_writes 1 = .ok (.i2l, 1) := by decide +kernel
theorem dX6_writes_2 : decode cX6_writes 2 = .ok (.lconst 0, 1) := by decide +kernel
theorem dX6_writes_3 : decode cX6_writes 3 = .ok (.ldc2_w 70, 3) := by decide +kernel
theorem dX6_writes_6 : decode cX6_writes 6 = .ok (.invokestatic 65, 3) := by decide +kernel
theorem dX6_writes_9 : decode cX6_writes 9 = .ok (.ifCond .eq 35, 3) := by decide +kernel
theorem dX6_writes_12 : decode cX6_writes 12 = .ok (.iload_n 2, 1) := by decide +kernel
theorem dX6_writes_13 : decode cX6_writes 13 = .ok (.i2l, 1) := by decide +kernel
theorem dX6_writes_14 : decode cX6_writes 14 = .ok (.lconst 0, 1) := by decide +kernel
theorem dX6_writes_15 : decode cX6_writes 15 = .ok (.ldc2_w 102, 3) := by decide +kernel
theorem dX6_writes_18 : decode cX6_writes 18 = .ok (.invokestatic 65, 3) := by decide +kernel
theorem dX6_writes_21 : decode cX6_writes 21 = .ok (.ifCond .eq 23, 3) := by decide +kernel
theorem dX6_writes_24 : decode cX6_writes 24 = .ok (.iload_n 3, 1) := by decide +kernel
theorem dX6_writes_25 : decode cX6_writes 25 = .ok (.i2l, 1) := by decide +kernel
theorem dX6_writes_26 : decode cX6_writes 26 = .ok (.lconst 0, 1) := by decide +kernel
theorem dX6_writes_27 : decode cX6_writes 27 = .ok (.ldc2_w 104, 3) := by decide +kernel
theorem dX6_writes_30 : decode cX6_writes 30 = .ok (.invokestatic 65, 3) := by decide +kernel
theorem dX6_writes_33 : decode cX6_writes 33 = .ok (.ifCond .eq 11, 3) := by decide +kernel
theorem dX6_writes_36 : decode cX6_writes 36 = .ok (.iload 4, 2) := by decide +kernel
theorem dX6_writes_38 : decode cX6_writes 38 = .ok (.invokestatic 106, 3) := by decide +kernel
theorem dX6_writes_41 : decode cX6_writes 41 = .ok (.ifCond .ne 6, 3) := by decide +kernel
theorem dX6_writes_44 : decode cX6_writes 44 = .ok (.ldc 110, 2) := by decide +kernel
theorem dX6_writes_46 : decode cX6_writes 46 = .ok (.ireturn, 1) := by decide +kernel
theorem dX6_writes_47 : decode cX6_writes 47 = .ok (.aload_n 0, 1) := by decide +kernel
theorem dX6_writes_48 : decode cX6_writes 48 = .ok (.getfield 7, 3) := by decide +kernel
theorem dX6_writes_51 : decode cX6_writes 51 = .ok (.iconst 0, 1) := by decide +kernel
theorem dX6_writes_52 : decode cX6_writes 52 = .ok (.iaload, 1) := by decide +kernel
theorem dX6_writes_53 : decode cX6_writes 53 = .ok (.bipush 10, 2) := by decide +kernel
theorem dX6_writes_55 : decode cX6_writes 55 = .ok (.if_icmp .ne 6, 3) := by decide +kernel
theorem dX6_writes_58 : decode cX6_writes 58 = .ok (.ldc 111, 2) := by decide +kernel
theorem dX6_writes_60 : decode cX6_writes 60 = .ok (.ireturn, 1) := by decide +kernel
theorem dX6_writes_61 : decode cX6_writes 61 = .ok (.aload_n 0, 1) := by decide +kernel
theorem dX6_writes_62 : decode cX6_writes 62 = .ok (.iload_n 1, 1) := by decide +kernel
theorem dX6_writes_63 : decode cX6_writes 63 = .ok (.iload_n 2, 1) := by decide +kernel
theorem dX6_writes_64 : decode cX6_writes 64 = .ok (.iload_n 3, 1) := by decide +kernel
theorem dX6_writes_65 : decode cX6_writes 65 = .ok (.iload 4, 2) := by decide +kernel
theorem dX6_writes_67 : decode cX6_writes 67 = .ok (.invokevirtual 112, 3) := by decide +kernel
theorem dX6_writes_70 : decode cX6_writes 70 = .ok (.aload_n 0, 1) := by decide +kernel
theorem dX6_writes_71 : decode cX6_writes 71 = .ok (.getfield 7, 3) := by decide +kernel
theorem dX6_writes_74 : decode cX6_writes 74 = .ok (.iconst 0, 1) := by decide +kernel
theorem dX6_writes_75 : decode cX6_writes 75 = .ok (.iaload, 1) := by decide +kernel
theorem dX6_writes_76 : decode cX6_writes 76 = .ok (.iconst 1, 1) := by decide +kernel
theorem dX6_writes_77 : decode cX6_writes 77 = .ok (.isub, 1) := by decide +kernel
theorem dX6_writes_78 : decode cX6_writes 78 = .ok (.ireturn, 1) := by decide +kernel
theorem dX6_told_0 : decode cX6_told 0 = .ok (.aload_n 0, 1) := by decide +kernel
theorem dX6_told_1 : decode cX6_told 1 = .ok (.iload_n 1, 1) := by decide +kernel
theorem dX6_told_2 : decode cX6_told 2 = .ok (.invokevirtual 116, 3) := by decide +kernel
theorem dX6_told_5 : decode cX6_told 5 = .ok (.ifCond .eq 15, 3) := by decide +kernel
theorem dX6_told_8 : decode cX6_told 8 = .ok (.iload_n 2, 1) := by decide +kernel
theorem dX6_told_9 : decode cX6_told 9 = .ok (.i2l, 1) := by decide +kernel
theorem dX6_told_10 : decode cX6_told 10 = .ok (.lconst 0, 1) := by decide +kernel
theorem dX6_told_11 : decode cX6_told 11 = .ok (.ldc2_w 119, 3) := by decide +kernel
theorem dX6_told_14 : decode cX6_told 14 = .ok (.invokestatic 65, 3) := by decide +kernel
theorem dX6_told_17 : decode cX6_told 17 = .ok (.ifCond .ne 6, 3) := by decide +kernel
theorem dX6_told_20 : decode cX6_told 20 = .ok (.ldc 110, 2) := by decide +kernel
theorem dX6_told_22 : decode cX6_told 22 = .ok (.ireturn, 1) := by decide +kernel
theorem dX6_told_23 : decode cX6_told 23 = .ok (.iload_n 2, 1) := by decide +kernel
theorem dX6_told_24 : decode cX6_told 24 = .ok (.tableswitch 56 5 8 #[32, 38, 44, 50], 32) := by decide +kernel
theorem dX6_told_56 : decode cX6_told 56 = .ok (.aload_n 0, 1) := by decide +kernel
theorem dX6_told_57 : decode cX6_told 57 = .ok (.iload_n 1, 1) := by decide +kernel
theorem dX6_told_58 : decode cX6_told 58 = .ok (.invokevirtual 121, 3) := by decide +kernel
theorem dX6_told_61 : decode cX6_told 61 = .ok (.ireturn, 1) := by decide +kernel
theorem dX6_told_62 : decode cX6_told 62 = .ok (.aload_n 0, 1) := by decide +kernel
theorem dX6_told_63 : decode cX6_told 63 = .ok (.iload_n 1, 1) := by decide +kernel
theorem dX6_told_64 : decode cX6_told 64 = .ok (.invokevirtual 124, 3) := by decide +kernel
theorem dX6_told_67 : decode cX6_told 67 = .ok (.ireturn, 1) := by decide +kernel
theorem dX6_told_68 : decode cX6_told 68 = .ok (.aload_n 0, 1) := by decide +kernel
theorem dX6_told_69 : decode cX6_told 69 = .ok (.iload_n 1, 1) := by decide +kernel
theorem dX6_told_70 : decode cX6_told 70 = .ok (.invokevirtual 127, 3) := by decide +kernel
theorem dX6_told_73 : decode cX6_told 73 = .ok (.ireturn, 1) := by decide +kernel
theorem dX6_told_74 : decode cX6_told 74 = .ok (.aload_n 0, 1) := by decide +kernel
theorem dX6_told_75 : decode cX6_told 75 = .ok (.iload_n 1, 1) := by decide +kernel
theorem dX6_told_76 : decode cX6_told 76 = .ok (.invokevirtual 130, 3) := by decide +kernel
theorem dX6_told_79 : decode cX6_told 79 = .ok (.ireturn, 1) := by decide +kernel
theorem dX6_told_80 : decode cX6_told 80 = .ok (.aload_n 0, 1) := by decide +kernel
theorem dX6_told_81 : decode cX6_told 81 = .ok (.iload_n 1, 1) := by decide +kernel
theorem dX6_told_82 : decode cX6_told 82 = .ok (.iload_n 2, 1) := by decide +kernel
theorem dX6_told_83 : decode cX6_told 83 = .ok (.invokevirtual 72, 3) := by decide +kernel
theorem dX6_told_86 : decode cX6_told 86 = .ok (.ireturn, 1) := by decide +kernel
theorem dX6_as_0 : decode cX6_as 0 = .ok (.aload_n 0, 1) := by decide +kernel
theorem dX6_as_1 : decode cX6_as 1 = .ok (.iload_n 1, 1) := by decide +kernel
theorem dX6_as_2 : decode cX6_as 2 = .ok (.invokevirtual 116, 3) := by decide +kernel
theorem dX6_as_5 : decode cX6_as 5 = .ok (.ifCond .eq 15, 3) := by decide +kernel
theorem dX6_as_8 : decode cX6_as 8 = .ok (.iload_n 2, 1) := by decide +kernel
theorem dX6_as_9 : decode cX6_as 9 = .ok (.i2l, 1) := by decide +kernel
theorem dX6_as_10 : decode cX6_as 10 = .ok (.lconst 0, 1) := by decide +kernel
theorem dX6_as_11 : decode cX6_as 11 = .ok (.ldc2_w 70, 3) := by decide +kernel
theorem dX6_as_14 : decode cX6_as 14 = .ok (.invokestatic 65, 3) := by decide +kernel
theorem dX6_as_17 : decode cX6_as 17 = .ok (.ifCond .ne 6, 3) := by decide +kernel
theorem dX6_as_20 : decode cX6_as 20 = .ok (.ldc 110, 2) := by decide +kernel
theorem dX6_as_22 : decode cX6_as 22 = .ok (.ireturn, 1) := by decide +kernel
theorem dX6_as_23 : decode cX6_as 23 = .ok (.aload_n 0, 1) := by decide +kernel
theorem dX6_as_24 : decode cX6_as 24 = .ok (.iload_n 1, 1) := by decide +kernel
theorem dX6_as_25 : decode cX6_as 25 = .ok (.iconst 0, 1) := by decide +kernel
theorem dX6_as_26 : decode cX6_as 26 = .ok (.invokevirtual 72, 3) := by decide +kernel
theorem dX6_as_29 : decode cX6_as 29 = .ok (.iload_n 2, 1) := by decide +kernel
theorem dX6_as_30 : decode cX6_as 30 = .ok (.invokestatic 133, 3) := by decide +kernel
theorem dX6_as_33 : decode cX6_as 33 = .ok (.ifCond .eq 12, 3) := by decide +kernel
theorem dX6_as_36 : decode cX6_as 36 = .ok (.aload_n 0, 1) := by decide +kernel
theorem dX6_as_37 : decode cX6_as 37 = .ok (.iload_n 1, 1) := by decide +kernel
theorem dX6_as_38 : decode cX6_as 38 = .ok (.iconst 1, 1) := by decide +kernel
theorem dX6_as_39 : decode cX6_as 39 = .ok (.invokevirtual 72, 3) := by decide +kernel
theorem dX6_as_42 : decode cX6_as 42 = .ok (.goto 5, 3) := by decide +kernel
theorem dX6_as_45 : decode cX6_as 45 = .ok (.ldc 137, 2) := by decide +kernel
theorem dX6_as_47 : decode cX6_as 47 = .ok (.ireturn, 1) := by decide +kernel
theorem dX6_turns_0 : decode cX6_turns 0 = .ok (.aload_n 0, 1) := by decide +kernel
theorem dX6_turns_1 : decode cX6_turns 1 = .ok (.iload_n 1, 1) := by decide +kernel
theorem dX6_turns_2 : decode cX6_turns 2 = .ok (.invokevirtual 116, 3) := by decide +kernel
theorem dX6_turns_5 : decode cX6_turns 5 = .ok (.ifCond .eq 29, 3) := by decide +kernel
theorem dX6_turns_8 : decode cX6_turns 8 = .ok (.iload_n 2, 1) := by decide +kernel
theorem dX6_turns_9 : decode cX6_turns 9 = .ok (.i2l, 1) := by decide +kernel
theorem dX6_turns_10 : decode cX6_turns 10 = .ok (.lconst 0, 1) := by decide +kernel
theorem dX6_turns_11 : decode cX6_turns 11 = .ok (.ldc2_w 70, 3) := by decide +kernel
theorem dX6_turns_14 : decode cX6_turns 14 = .ok (.invokestatic 65, 3) := by decide +kernel
theorem dX6_turns_17 : decode cX6_turns 17 = .ok (.ifCond .eq 17, 3) := by decide +kernel
theorem dX6_turns_20 : decode cX6_turns 20 = .ok (.aload_n 0, 1) := by decide +kernel
theorem dX6_turns_21 : decode cX6_turns 21 = .ok (.bipush 21, 2) := by decide +kernel
theorem dX6_turns_23 : decode cX6_turns 23 = .ok (.iconst 5, 1) := by decide +kernel
theorem dX6_turns_24 : decode cX6_turns 24 = .ok (.iload_n 1, 1) := by decide +kernel
theorem dX6_turns_25 : decode cX6_turns 25 = .ok (.imul, 1) := by decide +kernel
theorem dX6_turns_26 : decode cX6_turns 26 = .ok (.iadd, 1) := by decide +kernel
theorem dX6_turns_27 : decode cX6_turns 27 = .ok (.iload_n 2, 1) := by decide +kernel
theorem dX6_turns_28 : decode cX6_turns 28 = .ok (.invokevirtual 138, 3) := by decide +kernel
theorem dX6_turns_31 : decode cX6_turns 31 = .ok (.goto 5, 3) := by decide +kernel
theorem dX6_turns_34 : decode cX6_turns 34 = .ok (.ldc 110, 2) := by decide +kernel
theorem dX6_turns_36 : decode cX6_turns 36 = .ok (.ireturn, 1) := by decide +kernel
theorem dX6_set_0 : decode cX6_set 0 = .ok (.aload_n 0, 1) := by decide +kernel
theorem dX6_set_1 : decode cX6_set 1 = .ok (.iload_n 1, 1) := by decide +kernel
theorem dX6_set_2 : decode cX6_set 2 = .ok (.invokevirtual 116, 3) := by decide +kernel
theorem dX6_set_5 : decode cX6_set 5 = .ok (.ifCond .eq 53, 3) := by decide +kernel
theorem dX6_set_8 : decode cX6_set 8 = .ok (.iload_n 2, 1) := by decide +kernel
theorem dX6_set_9 : decode cX6_set 9 = .ok (.i2l, 1) := by decide +kernel
theorem dX6_set_10 : decode cX6_set 10 = .ok (.lconst 1, 1) := by decide +kernel
theorem dX6_set_11 : decode cX6_set 11 = .ok (.ldc2_w 141, 3) := by decide +kernel
theorem dX6_set_14 : decode cX6_set 14 = .ok (.invokestatic 65, 3) := by decide +kernel
theorem dX6_set_17 : decode cX6_set 17 = .ok (.ifCond .eq 41, 3) := by decide +kernel
theorem dX6_set_20 : decode cX6_set 20 = .ok (.iload_n 3, 1) := by decide +kernel
theorem dX6_set_21 : decode cX6_set 21 = .ok (.i2l, 1) := by decide +kernel
theorem dX6_set_22 : decode cX6_set 22 = .ok (.lconst 0, 1) := by decide +kernel
theorem dX6_set_23 : decode cX6_set 23 = .ok (.iload_n 2, 1) := by decide +kernel
theorem dX6_set_24 : decode cX6_set 24 = .ok (.iconst 1, 1) := by decide +kernel
theorem dX6_set_25 : decode cX6_set 25 = .ok (.if_icmp .ne 9, 3) := by decide +kernel
theorem dX6_set_28 : decode cX6_set 28 = .ok (.ldc2_w 102, 3) := by decide +kernel
theorem dX6_set_31 : decode cX6_set 31 = .ok (.goto 17, 3) := by decide +kernel
theorem dX6_set_34 : decode cX6_set 34 = .ok (.iload_n 2, 1) := by decide +kernel
theorem dX6_set_35 : decode cX6_set 35 = .ok (.iconst 3, 1) := by decide +kernel
theorem dX6_set_36 : decode cX6_set 36 = .ok (.if_icmp .ne 9, 3) := by decide +kernel
theorem dX6_set_39 : decode cX6_set 39 = .ok (.ldc2_w 70, 3) := by decide +kernel
theorem dX6_set_42 : decode cX6_set 42 = .ok (.goto 6, 3) := by decide +kernel
theorem dX6_set_45 : decode cX6_set 45 = .ok (.ldc2_w 104, 3) := by decide +kernel
theorem dX6_set_48 : decode cX6_set 48 = .ok (.invokestatic 65, 3) := by decide +kernel
theorem dX6_set_51 : decode cX6_set 51 = .ok (.ifCond .eq 7, 3) := by decide +kernel
theorem dX6_set_54 : decode cX6_set 54 = .ok (.iconst 1, 1) := by decide +kernel
theorem dX6_set_55 : decode cX6_set 55 = .ok (.goto 4, 3) := by decide +kernel
theorem dX6_set_58 : decode cX6_set 58 = .ok (.iconst 0, 1) := by decide +kernel
theorem dX6_set_59 : decode cX6_set 59 = .ok (.istore 4, 2) := by decide +kernel
theorem dX6_set_61 : decode cX6_set 61 = .ok (.iload 4, 2) := by decide +kernel
theorem dX6_set_63 : decode cX6_set 63 = .ok (.ifCond .eq 19, 3) := by decide +kernel
theorem dX6_set_66 : decode cX6_set 66 = .ok (.aload_n 0, 1) := by decide +kernel
theorem dX6_set_67 : decode cX6_set 67 = .ok (.bipush 21, 2) := by decide +kernel
theorem dX6_set_69 : decode cX6_set 69 = .ok (.iconst 5, 1) := by decide +kernel
theorem dX6_set_70 : decode cX6_set 70 = .ok (.iload_n 1, 1) := by decide +kernel
theorem dX6_set_71 : decode cX6_set 71 = .ok (.imul, 1) := by decide +kernel
theorem dX6_set_72 : decode cX6_set 72 = .ok (.iadd, 1) := by decide +kernel
theorem dX6_set_73 : decode cX6_set 73 = .ok (.iload_n 2, 1) := by decide +kernel
theorem dX6_set_74 : decode cX6_set 74 = .ok (.iadd, 1) := by decide +kernel
theorem dX6_set_75 : decode cX6_set 75 = .ok (.iload_n 3, 1) := by decide +kernel
theorem dX6_set_76 : decode cX6_set 76 = .ok (.invokevirtual 138, 3) := by decide +kernel
theorem dX6_set_79 : decode cX6_set 79 = .ok (.goto 5, 3) := by decide +kernel
theorem dX6_set_82 : decode cX6_set 82 = .ok (.ldc 110, 2) := by decide +kernel
theorem dX6_set_84 : decode cX6_set 84 = .ok (.ireturn, 1) := by decide +kernel
theorem dX6_cell_0 : decode cX6_cell 0 = .ok (.iload_n 1, 1) := by decide +kernel
theorem dX6_cell_1 : decode cX6_cell 1 = .ok (.invokestatic 106, 3) := by decide +kernel
theorem dX6_cell_4 : decode cX6_cell 4 = .ok (.ifCond .eq 35, 3) := by decide +kernel
theorem dX6_cell_7 : decode cX6_cell 7 = .ok (.iload_n 2, 1) := by decide +kernel
theorem dX6_cell_8 : decode cX6_cell 8 = .ok (.i2l, 1) := by decide +kernel
theorem dX6_cell_9 : decode cX6_cell 9 = .ok (.lconst 0, 1) := by decide +kernel
theorem dX6_cell_10 : decode cX6_cell 10 = .ok (.lconst 1, 1) := by decide +kernel
theorem dX6_cell_11 : decode cX6_cell 11 = .ok (.invokestatic 65, 3) := by decide +kernel
theorem dX6_cell_14 : decode cX6_cell 14 = .ok (.ifCond .eq 25, 3) := by decide +kernel
theorem dX6_cell_17 : decode cX6_cell 17 = .ok (.iload_n 3, 1) := by decide +kernel
theorem dX6_cell_18 : decode cX6_cell 18 = .ok (.i2l, 1) := by decide +kernel
theorem dX6_cell_19 : decode cX6_cell 19 = .ok (.lconst 0, 1) := by decide +kernel
theorem dX6_cell_20 : decode cX6_cell 20 = .ok (.iload_n 2, 1) := by decide +kernel
theorem dX6_cell_21 : decode cX6_cell 21 = .ok (.ifCond .ne 9, 3) := by decide +kernel
theorem dX6_cell_24 : decode cX6_cell 24 = .ok (.ldc2_w 102, 3) := by decide +kernel
theorem dX6_cell_27 : decode cX6_cell 27 = .ok (.goto 6, 3) := by decide +kernel
theorem dX6_cell_30 : decode cX6_cell 30 = .ok (.ldc2_w 104, 3) := by decide +kernel
theorem dX6_cell_33 : decode cX6_cell 33 = .ok (.invokestatic 65, 3) := by decide +kernel
theorem dX6_cell_36 : decode cX6_cell 36 = .ok (.ifCond .ne 6, 3) := by decide +kernel
theorem dX6_cell_39 : decode cX6_cell 39 = .ok (.ldc 110, 2) := by decide +kernel
theorem dX6_cell_41 : decode cX6_cell 41 = .ok (.ireturn, 1) := by decide +kernel
theorem dX6_cell_42 : decode cX6_cell 42 = .ok (.aload_n 0, 1) := by decide +kernel
theorem dX6_cell_43 : decode cX6_cell 43 = .ok (.iload_n 2, 1) := by decide +kernel
theorem dX6_cell_44 : decode cX6_cell 44 = .ok (.ifCond .ne 8, 3) := by decide +kernel
theorem dX6_cell_47 : decode cX6_cell 47 = .ok (.bipush 9, 2) := by decide +kernel
theorem dX6_cell_49 : decode cX6_cell 49 = .ok (.goto 5, 3) := by decide +kernel
theorem dX6_cell_52 : decode cX6_cell 52 = .ok (.bipush 15, 2) := by decide +kernel
theorem dX6_cell_54 : decode cX6_cell 54 = .ok (.iload_n 1, 1) := by decide +kernel
theorem dX6_cell_55 : decode cX6_cell 55 = .ok (.iadd, 1) := by decide +kernel
theorem dX6_cell_56 : decode cX6_cell 56 = .ok (.iload_n 3, 1) := by decide +kernel
theorem dX6_cell_57 : decode cX6_cell 57 = .ok (.invokevirtual 138, 3) := by decide +kernel
theorem dX6_cell_60 : decode cX6_cell 60 = .ok (.ireturn, 1) := by decide +kernel
theorem dX6_shownBy_0 : decode cX6_shownBy 0 = .ok (.iconst 0, 1) := by decide +kernel
theorem dX6_shownBy_1 : decode cX6_shownBy 1 = .ok (.istore_n 2, 1) := by decide +kernel
theorem dX6_shownBy_2 : decode cX6_shownBy 2 = .ok (.iconst 0, 1) := by decide +kernel
theorem dX6_shownBy_3 : decode cX6_shownBy 3 = .ok (.istore_n 3, 1) := by decide +kernel
theorem dX6_shownBy_4 : decode cX6_shownBy 4 = .ok (.iload_n 3, 1) := by decide +kernel
theorem dX6_shownBy_5 : decode cX6_shownBy 5 = .ok (.aload_n 0, 1) := by decide +kernel
theorem dX6_shownBy_6 : decode cX6_shownBy 6 = .ok (.getfield 7, 3) := by decide +kernel
theorem dX6_shownBy_9 : decode cX6_shownBy 9 = .ok (.iconst 0, 1) := by decide +kernel
theorem dX6_shownBy_10 : decode cX6_shownBy 10 = .ok (.iaload, 1) := by decide +kernel
theorem dX6_shownBy_11 : decode cX6_shownBy 11 = .ok (.if_icmp .ge 30, 3) := by decide +kernel
theorem dX6_shownBy_14 : decode cX6_shownBy 14 = .ok (.iload_n 2, 1) := by decide +kernel
theorem dX6_shownBy_15 : decode cX6_shownBy 15 = .ok (.iload_n 1, 1) := by decide +kernel
theorem dX6_shownBy_16 : decode cX6_shownBy 16 = .ok (.iload_n 3, 1) := by decide +kernel
theorem dX6_shownBy_17 : decode cX6_shownBy 17 = .ok (.ishr, 1) := by decide +kernel
theorem dX6_shownBy_18 : decode cX6_shownBy 18 = .ok (.iconst 1, 1) := by decide +kernel
theorem dX6_shownBy_19 : decode cX6_shownBy 19 = .ok (.iand, 1) := by decide +kernel
theorem dX6_shownBy_20 : decode cX6_shownBy 20 = .ok (.iconst 1, 1) := by decide +kernel
theorem dX6_shownBy_21 : decode cX6_shownBy 21 = .ok (.if_icmp .ne 11, 3) := by decide +kernel
theorem dX6_shownBy_24 : decode cX6_shownBy 24 = .ok (.aload_n 0, 1) := by decide +kernel
theorem dX6_shownBy_25 : decode cX6_shownBy 25 = .ok (.iload_n 3, 1) := by decide +kernel
theorem dX6_shownBy_26 : decode cX6_shownBy 26 = .ok (.invokevirtual 121, 3) := by decide +kernel
theorem dX6_shownBy_29 : decode cX6_shownBy 29 = .ok (.goto 4, 3) := by decide +kernel
theorem dX6_shownBy_32 : decode cX6_shownBy 32 = .ok (.iconst 0, 1) := by decide +kernel
theorem dX6_shownBy_33 : decode cX6_shownBy 33 = .ok (.iadd, 1) := by decide +kernel
theorem dX6_shownBy_34 : decode cX6_shownBy 34 = .ok (.istore_n 2, 1) := by decide +kernel
theorem dX6_shownBy_35 : decode cX6_shownBy 35 = .ok (.iinc 3 1, 3) := by decide +kernel
theorem dX6_shownBy_38 : decode cX6_shownBy 38 = .ok (.goto (-34), 3) := by decide +kernel
theorem dX6_shownBy_41 : decode cX6_shownBy 41 = .ok (.iload_n 2, 1) := by decide +kernel
theorem dX6_shownBy_42 : decode cX6_shownBy 42 = .ok (.ireturn, 1) := by decide +kernel
theorem dX6_cellOf_0 : decode cX6_cellOf 0 = .ok (.iload_n 1, 1) := by decide +kernel
theorem dX6_cellOf_1 : decode cX6_cellOf 1 = .ok (.invokestatic 106, 3) := by decide +kernel
theorem dX6_cellOf_4 : decode cX6_cellOf 4 = .ok (.ifCond .eq 15, 3) := by decide +kernel
theorem dX6_cellOf_7 : decode cX6_cellOf 7 = .ok (.iload_n 2, 1) := by decide +kernel
theorem dX6_cellOf_8 : decode cX6_cellOf 8 = .ok (.i2l, 1) := by decide +kernel
theorem dX6_cellOf_9 : decode cX6_cellOf 9 = .ok (.lconst 0, 1) := by decide +kernel
theorem dX6_cellOf_10 : decode cX6_cellOf 10 = .ok (.ldc2_w 143, 3) := by decide +kernel
theorem dX6_cellOf_13 : decode cX6_cellOf 13 = .ok (.invokestatic 65, 3) := by decide +kernel
theorem dX6_cellOf_16 : decode cX6_cellOf 16 = .ok (.ifCond .ne 6, 3) := by decide +kernel
theorem dX6_cellOf_19 : decode cX6_cellOf 19 = .ok (.ldc 110, 2) := by decide +kernel
theorem dX6_cellOf_21 : decode cX6_cellOf 21 = .ok (.ireturn, 1) := by decide +kernel
theorem dX6_cellOf_22 : decode cX6_cellOf 22 = .ok (.iload_n 2, 1) := by decide +kernel
theorem dX6_cellOf_23 : decode cX6_cellOf 23 = .ok (.ifCond .ne 15, 3) := by decide +kernel
theorem dX6_cellOf_26 : decode cX6_cellOf 26 = .ok (.aload_n 0, 1) := by decide +kernel
theorem dX6_cellOf_27 : decode cX6_cellOf 27 = .ok (.getfield 7, 3) := by decide +kernel
theorem dX6_cellOf_30 : decode cX6_cellOf 30 = .ok (.bipush 9, 2) := by decide +kernel
theorem dX6_cellOf_32 : decode cX6_cellOf 32 = .ok (.iload_n 1, 1) := by decide +kernel
theorem dX6_cellOf_33 : decode cX6_cellOf 33 = .ok (.iadd, 1) := by decide +kernel
theorem dX6_cellOf_34 : decode cX6_cellOf 34 = .ok (.iaload, 1) := by decide +kernel
theorem dX6_cellOf_35 : decode cX6_cellOf 35 = .ok (.goto 42, 3) := by decide +kernel
theorem dX6_cellOf_38 : decode cX6_cellOf 38 = .ok (.iload_n 2, 1) := by decide +kernel
theorem dX6_cellOf_39 : decode cX6_cellOf 39 = .ok (.iconst 1, 1) := by decide +kernel
theorem dX6_cellOf_40 : decode cX6_cellOf 40 = .ok (.if_icmp .ne 15, 3) := by decide +kernel
theorem dX6_cellOf_43 : decode cX6_cellOf 43 = .ok (.aload_n 0, 1) := by decide +kernel
theorem dX6_cellOf_44 : decode cX6_cellOf 44 = .ok (.getfield 7, 3) := by decide +kernel
theorem dX6_cellOf_47 : decode cX6_cellOf 47 = .ok (.bipush 15, 2) := by decide +kernel
theorem dX6_cellOf_49 : decode cX6_cellOf 49 = .ok (.iload_n 1, 1) := by decide +kernel
theorem dX6_cellOf_50 : decode cX6_cellOf 50 = .ok (.iadd, 1) := by decide +kernel
theorem dX6_cellOf_51 : decode cX6_cellOf 51 = .ok (.iaload, 1) := by decide +kernel
theorem dX6_cellOf_52 : decode cX6_cellOf 52 = .ok (.goto 25, 3) := by decide +kernel
theorem dX6_cellOf_55 : decode cX6_cellOf 55 = .ok (.iload_n 2, 1) := by decide +kernel
theorem dX6_cellOf_56 : decode cX6_cellOf 56 = .ok (.iconst 2, 1) := by decide +kernel
theorem dX6_cellOf_57 : decode cX6_cellOf 57 = .ok (.if_icmp .ne 11, 3) := by decide +kernel
theorem dX6_cellOf_60 : decode cX6_cellOf 60 = .ok (.aload_n 0, 1) := by decide +kernel
theorem dX6_cellOf_61 : decode cX6_cellOf 61 = .ok (.iload_n 1, 1) := by decide +kernel
theorem dX6_cellOf_62 : decode cX6_cellOf 62 = .ok (.invokevirtual 83, 3) := by decide +kernel
theorem dX6_cellOf_65 : decode cX6_cellOf 65 = .ok (.goto 12, 3) := by decide +kernel
theorem dX6_cellOf_68 : decode cX6_cellOf 68 = .ok (.aload_n 0, 1) := by decide +kernel
theorem dX6_cellOf_69 : decode cX6_cellOf 69 = .ok (.aload_n 0, 1) := by decide +kernel
theorem dX6_cellOf_70 : decode cX6_cellOf 70 = .ok (.iload_n 1, 1) := by decide +kernel
theorem dX6_cellOf_71 : decode cX6_cellOf 71 = .ok (.invokevirtual 83, 3) := by decide +kernel
theorem dX6_cellOf_74 : decode cX6_cellOf 74 = .ok (.invokevirtual 145, 3) := by decide +kernel
theorem dX6_cellOf_77 : decode cX6_cellOf 77 = .ok (.ireturn, 1) := by decide +kernel
theorem dX6_rule_0 : decode cX6_rule 0 = .ok (.iload_n 1, 1) := by decide +kernel
theorem dX6_rule_1 : decode cX6_rule 1 = .ok (.i2l, 1) := by decide +kernel
theorem dX6_rule_2 : decode cX6_rule 2 = .ok (.lconst 0, 1) := by decide +kernel
theorem dX6_rule_3 : decode cX6_rule 3 = .ok (.ldc2_w 148, 3) := by decide +kernel
theorem dX6_rule_6 : decode cX6_rule 6 = .ok (.invokestatic 65, 3) := by decide +kernel
theorem dX6_rule_9 : decode cX6_rule 9 = .ok (.ifCond .eq 55, 3) := by decide +kernel
theorem dX6_rule_12 : decode cX6_rule 12 = .ok (.iload_n 2, 1) := by decide +kernel
theorem dX6_rule_13 : decode cX6_rule 13 = .ok (.i2l, 1) := by decide +kernel
theorem dX6_rule_14 : decode cX6_rule 14 = .ok (.iload_n 1, 1) := by decide +kernel
theorem dX6_rule_15 : decode cX6_rule 15 = .ok (.ifCond .ne 7, 3) := by decide +kernel
theorem dX6_rule_18 : decode cX6_rule 18 = .ok (.lconst 1, 1) := by decide +kernel
theorem dX6_rule_19 : decode cX6_rule 19 = .ok (.goto 4, 3) := by decide +kernel
theorem dX6_rule_22 : decode cX6_rule 22 = .ok (.lconst 0, 1) := by decide +kernel
theorem dX6_rule_23 : decode cX6_rule 23 = .ok (.iload_n 1, 1) := by decide +kernel
theorem dX6_rule_24 : decode cX6_rule 24 = .ok (.ifCond .ne 9, 3) := by decide +kernel
theorem dX6_rule_27 : decode cX6_rule 27 = .ok (.ldc2_w 150, 3) := by decide +kernel
theorem dX6_rule_30 : decode cX6_rule 30 = .ok (.goto 17, 3) := by decide +kernel
theorem dX6_rule_33 : decode cX6_rule 33 = .ok (.iload_n 1, 1) := by decide +kernel
theorem dX6_rule_34 : decode cX6_rule 34 = .ok (.iconst 1, 1) := by decide +kernel
theorem dX6_rule_35 : decode cX6_rule 35 = .ok (.if_icmp .ne 9, 3) := by decide +kernel
theorem dX6_rule_38 : decode cX6_rule 38 = .ok (.ldc2_w 102, 3) := by decide +kernel
theorem dX6_rule_41 : decode cX6_rule 41 = .ok (.goto 6, 3) := by decide +kernel
theorem dX6_rule_44 : decode cX6_rule 44 = .ok (.ldc2_w 152, 3) := by decide +kernel
theorem dX6_rule_47 : decode cX6_rule 47 = .ok (.invokestatic 65, 3) := by decide +kernel
theorem dX6_rule_50 : decode cX6_rule 50 = .ok (.ifCond .eq 14, 3) := by decide +kernel
theorem dX6_rule_53 : decode cX6_rule 53 = .ok (.aload_n 0, 1) := by decide +kernel
theorem dX6_rule_54 : decode cX6_rule 54 = .ok (.iconst 3, 1) := by decide +kernel
theorem dX6_rule_55 : decode cX6_rule 55 = .ok (.iload_n 1, 1) := by decide +kernel
theorem dX6_rule_56 : decode cX6_rule 56 = .ok (.iadd, 1) := by decide +kernel
theorem dX6_rule_57 : decode cX6_rule 57 = .ok (.iload_n 2, 1) := by decide +kernel
theorem dX6_rule_58 : decode cX6_rule 58 = .ok (.invokevirtual 138, 3) := by decide +kernel
theorem dX6_rule_61 : decode cX6_rule 61 = .ok (.goto 5, 3) := by decide +kernel
theorem dX6_rule_64 : decode cX6_rule 64 = .ok (.ldc 110, 2) := by decide +kernel
theorem dX6_rule_66 : decode cX6_rule 66 = .ok (.ireturn, 1) := by decide +kernel
theorem dX6_deal_0 : decode cX6_deal 0 = .ok (.iload_n 1, 1) := by decide +kernel
theorem dX6_deal_1 : decode cX6_deal 1 = .ok (.i2l, 1) := by decide +kernel
theorem dX6_deal_2 : decode cX6_deal 2 = .ok (.lconst 1, 1) := by decide +kernel
theorem dX6_deal_3 : decode cX6_deal 3 = .ok (.ldc2_w 154, 3) := by decide +kernel
theorem dX6_deal_6 : decode cX6_deal 6 = .ok (.invokestatic 65, 3) := by decide +kernel
theorem dX6_deal_9 : decode cX6_deal 9 = .ok (.ifCond .ne 6, 3) := by decide +kernel
theorem dX6_deal_12 : decode cX6_deal 12 = .ok (.ldc 110, 2) := by decide +kernel
theorem dX6_deal_14 : decode cX6_deal 14 = .ok (.ireturn, 1) := by decide +kernel
theorem dX6_deal_15 : decode cX6_deal 15 = .ok (.iconst 0, 1) := by decide +kernel
theorem dX6_deal_16 : decode cX6_deal 16 = .ok (.istore_n 2, 1) := by decide +kernel
theorem dX6_deal_17 : decode cX6_deal 17 = .ok (.iload_n 2, 1) := by decide +kernel
theorem dX6_deal_18 : decode cX6_deal 18 = .ok (.iload_n 1, 1) := by decide +kernel
theorem dX6_deal_19 : decode cX6_deal 19 = .ok (.if_icmp .ge 65, 3) := by decide +kernel
theorem dX6_deal_22 : decode cX6_deal 22 = .ok (.aload_n 0, 1) := by decide +kernel
theorem dX6_deal_23 : decode cX6_deal 23 = .ok (.getfield 7, 3) := by decide +kernel
theorem dX6_deal_26 : decode cX6_deal 26 = .ok (.iconst 0, 1) := by decide +kernel
theorem dX6_deal_27 : decode cX6_deal 27 = .ok (.iaload, 1) := by decide +kernel
theorem dX6_deal_28 : decode cX6_deal 28 = .ok (.bipush 10, 2) := by decide +kernel
theorem dX6_deal_30 : decode cX6_deal 30 = .ok (.if_icmp .ge 54, 3) := by decide +kernel
theorem dX6_deal_33 : decode cX6_deal 33 = .ok (.aload_n 0, 1) := by decide +kernel
theorem dX6_deal_34 : decode cX6_deal 34 = .ok (.invokevirtual 156, 3) := by decide +kernel
theorem dX6_deal_37 : decode cX6_deal 37 = .ok (.bipush 6, 2) := by decide +kernel
theorem dX6_deal_39 : decode cX6_deal 39 = .ok (.irem, 1) := by decide +kernel
theorem dX6_deal_40 : decode cX6_deal 40 = .ok (.istore_n 3, 1) := by decide +kernel
theorem dX6_deal_41 : decode cX6_deal 41 = .ok (.aload_n 0, 1) := by decide +kernel
theorem dX6_deal_42 : decode cX6_deal 42 = .ok (.invokevirtual 156, 3) := by decide +kernel
theorem dX6_deal_45 : decode cX6_deal 45 = .ok (.bipush 70, 2) := by decide +kernel
theorem dX6_deal_47 : decode cX6_deal 47 = .ok (.irem, 1) := by decide +kernel
theorem dX6_deal_48 : decode cX6_deal 48 = .ok (.bipush 30, 2) := by decide +kernel
theorem dX6_deal_50 : decode cX6_deal 50 = .ok (.iadd, 1) := by decide +kernel
theorem dX6_deal_51 : decode cX6_deal 51 = .ok (.istore 4, 2) := by decide +kernel
theorem dX6_deal_53 : decode cX6_deal 53 = .ok (.aload_n 0, 1) := by decide +kernel
theorem dX6_deal_54 : decode cX6_deal 54 = .ok (.invokevirtual 156, 3) := by decide +kernel
theorem dX6_deal_57 : decode cX6_deal 57 = .ok (.bipush 40, 2) := by decide +kernel
theorem dX6_deal_59 : decode cX6_deal 59 = .ok (.irem, 1) := by decide +kernel
theorem dX6_deal_60 : decode cX6_deal 60 = .ok (.istore 5, 2) := by decide +kernel
theorem dX6_deal_62 : decode cX6_deal 62 = .ok (.aload_n 0, 1) := by decide +kernel
theorem dX6_deal_63 : decode cX6_deal 63 = .ok (.iload_n 3, 1) := by decide +kernel
theorem dX6_deal_64 : decode cX6_deal 64 = .ok (.iload 4, 2) := by decide +kernel
theorem dX6_deal_66 : decode cX6_deal 66 = .ok (.iload 5, 2) := by decide +kernel
theorem dX6_deal_68 : decode cX6_deal 68 = .ok (.aload_n 0, 1) := by decide +kernel
theorem dX6_deal_69 : decode cX6_deal 69 = .ok (.invokevirtual 156, 3) := by decide +kernel
theorem dX6_deal_72 : decode cX6_deal 72 = .ok (.bipush 6, 2) := by decide +kernel
theorem dX6_deal_74 : decode cX6_deal 74 = .ok (.irem, 1) := by decide +kernel
theorem dX6_deal_75 : decode cX6_deal 75 = .ok (.invokevirtual 112, 3) := by decide +kernel
theorem dX6_deal_78 : decode cX6_deal 78 = .ok (.iinc 2 1, 3) := by decide +kernel
theorem dX6_deal_81 : decode cX6_deal 81 = .ok (.goto (-64), 3) := by decide +kernel
theorem dX6_deal_84 : decode cX6_deal 84 = .ok (.iload_n 2, 1) := by decide +kernel
theorem dX6_deal_85 : decode cX6_deal 85 = .ok (.ireturn, 1) := by decide +kernel
theorem dX6_seed_0 : decode cX6_seed 0 = .ok (.aload_n 0, 1) := by decide +kernel
theorem dX6_seed_1 : decode cX6_seed 1 = .ok (.bipush 8, 2) := by decide +kernel
theorem dX6_seed_3 : decode cX6_seed 3 = .ok (.iload_n 1, 1) := by decide +kernel
theorem dX6_seed_4 : decode cX6_seed 4 = .ok (.invokevirtual 138, 3) := by decide +kernel
theorem dX6_seed_7 : decode cX6_seed 7 = .ok (.ireturn, 1) := by decide +kernel
theorem dX6_fewest_0 : decode cX6_fewest 0 = .ok (.iload_n 1, 1) := by decide +kernel
theorem dX6_fewest_1 : decode cX6_fewest 1 = .ok (.i2l, 1) := by decide +kernel
theorem dX6_fewest_2 : decode cX6_fewest 2 = .ok (.lconst 0, 1) := by decide +kernel
theorem dX6_fewest_3 : decode cX6_fewest 3 = .ok (.ldc2_w 160, 3) := by decide +kernel
theorem dX6_fewest_6 : decode cX6_fewest 6 = .ok (.invokestatic 65, 3) := by decide +kernel
theorem dX6_fewest_9 : decode cX6_fewest 9 = .ok (.ifCond .eq 13, 3) := by decide +kernel
theorem dX6_fewest_12 : decode cX6_fewest 12 = .ok (.iload_n 2, 1) := by decide +kernel
theorem dX6_fewest_13 : decode cX6_fewest 13 = .ok (.i2l, 1) := by decide +kernel
theorem dX6_fewest_14 : decode cX6_fewest 14 = .ok (.lconst 0, 1) := by decide +kernel
theorem dX6_fewest_15 : decode cX6_fewest 15 = .ok (.lconst 1, 1) := by decide +kernel
theorem dX6_fewest_16 : decode cX6_fewest 16 = .ok (.invokestatic 65, 3) := by decide +kernel
theorem dX6_fewest_19 : decode cX6_fewest 19 = .ok (.ifCond .ne 6, 3) := by decide +kernel
theorem dX6_fewest_22 : decode cX6_fewest 22 = .ok (.ldc 110, 2) := by decide +kernel
theorem dX6_fewest_24 : decode cX6_fewest 24 = .ok (.ireturn, 1) := by decide +kernel
theorem dX6_fewest_25 : decode cX6_fewest 25 = .ok (.iconst (-1), 1) := by decide +kernel
theorem dX6_fewest_26 : decode cX6_fewest 26 = .ok (.istore_n 3, 1) := by decide +kernel
theorem dX6_fewest_27 : decode cX6_fewest 27 = .ok (.iconst 0, 1) := by decide +kernel
theorem dX6_fewest_28 : decode cX6_fewest 28 = .ok (.istore 4, 2) := by decide +kernel
theorem dX6_fewest_30 : decode cX6_fewest 30 = .ok (.iload 4, 2) := by decide +kernel
theorem dX6_fewest_32 : decode cX6_fewest 32 = .ok (.iconst 1, 1) := by decide +kernel
theorem dX6_fewest_33 : decode cX6_fewest 33 = .ok (.aload_n 0, 1) := by decide +kernel
theorem dX6_fewest_34 : decode cX6_fewest 34 = .ok (.getfield 7, 3) := by decide +kernel
theorem dX6_fewest_37 : decode cX6_fewest 37 = .ok (.iconst 0, 1) := by decide +kernel
theorem dX6_fewest_38 : decode cX6_fewest 38 = .ok (.iaload, 1) := by decide +kernel
theorem dX6_fewest_39 : decode cX6_fewest 39 = .ok (.ishl, 1) := by decide +kernel
theorem dX6_fewest_40 : decode cX6_fewest 40 = .ok (.if_icmp .ge 42, 3) := by decide +kernel
theorem dX6_fewest_43 : decode cX6_fewest 43 = .ok (.iload_n 3, 1) := by decide +kernel
theorem dX6_fewest_44 : decode cX6_fewest 44 = .ok (.ifCond .lt 15, 3) := by decide +kernel
theorem dX6_fewest_47 : decode cX6_fewest 47 = .ok (.iload 4, 2) := by decide +kernel
theorem dX6_fewest_49 : decode cX6_fewest 49 = .ok (.invokestatic 86, 3) := by decide +kernel
theorem dX6_fewest_52 : decode cX6_fewest 52 = .ok (.iload_n 3, 1) := by decide +kernel
theorem dX6_fewest_53 : decode cX6_fewest 53 = .ok (.invokestatic 86, 3) := by decide +kernel
theorem dX6_fewest_56 : decode cX6_fewest 56 = .ok (.if_icmp .ge 18, 3) := by decide +kernel
theorem dX6_fewest_59 : decode cX6_fewest 59 = .ok (.aload_n 0, 1) := by decide +kernel
theorem dX6_fewest_60 : decode cX6_fewest 60 = .ok (.iload 4, 2) := by decide +kernel
theorem dX6_fewest_62 : decode cX6_fewest 62 = .ok (.invokevirtual 145, 3) := by decide +kernel
theorem dX6_fewest_65 : decode cX6_fewest 65 = .ok (.iload_n 1, 1) := by decide +kernel
theorem dX6_fewest_66 : decode cX6_fewest 66 = .ok (.if_icmp .lt 8, 3) := by decide +kernel
theorem dX6_fewest_69 : decode cX6_fewest 69 = .ok (.iload 4, 2) := by decide +kernel
theorem dX6_fewest_71 : decode cX6_fewest 71 = .ok (.goto 4, 3) := by decide +kernel
theorem dX6_fewest_74 : decode cX6_fewest 74 = .ok (.iload_n 3, 1) := by decide +kernel
theorem dX6_fewest_75 : decode cX6_fewest 75 = .ok (.istore_n 3, 1) := by decide +kernel
theorem dX6_fewest_76 : decode cX6_fewest 76 = .ok (.iinc 4 1, 3) := by decide +kernel
theorem dX6_fewest_79 : decode cX6_fewest 79 = .ok (.goto (-49), 3) := by decide +kernel
theorem dX6_fewest_82 : decode cX6_fewest 82 = .ok (.iload_n 3, 1) := by decide +kernel
theorem dX6_fewest_83 : decode cX6_fewest 83 = .ok (.ifCond .ge 8, 3) := by decide +kernel
theorem dX6_fewest_86 : decode cX6_fewest 86 = .ok (.ldc 64, 2) := by decide +kernel
theorem dX6_fewest_88 : decode cX6_fewest 88 = .ok (.goto 15, 3) := by decide +kernel
theorem dX6_fewest_91 : decode cX6_fewest 91 = .ok (.iload_n 2, 1) := by decide +kernel
theorem dX6_fewest_92 : decode cX6_fewest 92 = .ok (.ifCond .ne 7, 3) := by decide +kernel
theorem dX6_fewest_95 : decode cX6_fewest 95 = .ok (.iload_n 3, 1) := by decide +kernel
theorem dX6_fewest_96 : decode cX6_fewest 96 = .ok (.goto 7, 3) := by decide +kernel
theorem dX6_fewest_99 : decode cX6_fewest 99 = .ok (.iload_n 3, 1) := by decide +kernel
theorem dX6_fewest_100 : decode cX6_fewest 100 = .ok (.invokestatic 86, 3) := by decide +kernel
theorem dX6_fewest_103 : decode cX6_fewest 103 = .ok (.ireturn, 1) := by decide +kernel
theorem dX6_isLegible_0 : decode cX6_isLegible 0 = .ok (.aload_n 0, 1) := by decide +kernel
theorem dX6_isLegible_1 : decode cX6_isLegible 1 = .ok (.iload_n 1, 1) := by decide +kernel
theorem dX6_isLegible_2 : decode cX6_isLegible 2 = .ok (.invokevirtual 121, 3) := by decide +kernel
theorem dX6_isLegible_5 : decode cX6_isLegible 5 = .ok (.aload_n 0, 1) := by decide +kernel
theorem dX6_isLegible_6 : decode cX6_isLegible 6 = .ok (.getfield 7, 3) := by decide +kernel
theorem dX6_isLegible_9 : decode cX6_isLegible 9 = .ok (.iconst 4, 1) := by decide +kernel
theorem dX6_isLegible_10 : decode cX6_isLegible 10 = .ok (.iaload, 1) := by decide +kernel
theorem dX6_isLegible_11 : decode cX6_isLegible 11 = .ok (.if_icmp .lt 7, 3) := by decide +kernel
theorem dX6_isLegible_14 : decode cX6_isLegible 14 = .ok (.iconst 1, 1) := by decide +kernel
theorem dX6_isLegible_15 : decode cX6_isLegible 15 = .ok (.goto 4, 3) := by decide +kernel
theorem dX6_isLegible_18 : decode cX6_isLegible 18 = .ok (.iconst 0, 1) := by decide +kernel
theorem dX6_isLegible_19 : decode cX6_isLegible 19 = .ok (.ireturn, 1) := by decide +kernel
theorem dX6_legible_0 : decode cX6_legible 0 = .ok (.iconst 0, 1) := by decide +kernel
theorem dX6_legible_1 : decode cX6_legible 1 = .ok (.istore_n 1, 1) := by decide +kernel
theorem dX6_legible_2 : decode cX6_legible 2 = .ok (.iconst 0, 1) := by decide +kernel
theorem dX6_legible_3 : decode cX6_legible 3 = .ok (.istore_n 2, 1) := by decide +kernel
theorem dX6_legible_4 : decode cX6_legible 4 = .ok (.iload_n 2, 1) := by decide +kernel
theorem dX6_legible_5 : decode cX6_legible 5 = .ok (.aload_n 0, 1) := by decide +kernel
theorem dX6_legible_6 : decode cX6_legible 6 = .ok (.getfield 7, 3) := by decide +kernel
theorem dX6_legible_9 : decode cX6_legible 9 = .ok (.iconst 0, 1) := by decide +kernel
theorem dX6_legible_10 : decode cX6_legible 10 = .ok (.iaload, 1) := by decide +kernel
theorem dX6_legible_11 : decode cX6_legible 11 = .ok (.if_icmp .ge 27, 3) := by decide +kernel
theorem dX6_legible_14 : decode cX6_legible 14 = .ok (.iload_n 1, 1) := by decide +kernel
theorem dX6_legible_15 : decode cX6_legible 15 = .ok (.aload_n 0, 1) := by decide +kernel
theorem dX6_legible_16 : decode cX6_legible 16 = .ok (.iload_n 2, 1) := by decide +kernel
theorem dX6_legible_17 : decode cX6_legible 17 = .ok (.invokevirtual 162, 3) := by decide +kernel
theorem dX6_legible_20 : decode cX6_legible 20 = .ok (.ifCond .eq 9, 3) := by decide +kernel
theorem dX6_legible_23 : decode cX6_legible 23 = .ok (.iconst 1, 1) := by decide +kernel
theorem dX6_legible_24 : decode cX6_legible 24 = .ok (.iload_n 2, 1) := by decide +kernel
theorem dX6_legible_25 : decode cX6_legible 25 = .ok (.ishl, 1) := by decide +kernel
theorem dX6_legible_26 : decode cX6_legible 26 = .ok (.goto 4, 3) := by decide +kernel
theorem dX6_legible_29 : decode cX6_legible 29 = .ok (.iconst 0, 1) := by decide +kernel
theorem dX6_legible_30 : decode cX6_legible 30 = .ok (.ior, 1) := by decide +kernel
theorem dX6_legible_31 : decode cX6_legible 31 = .ok (.istore_n 1, 1) := by decide +kernel
theorem dX6_legible_32 : decode cX6_legible 32 = .ok (.iinc 2 1, 3) := by decide +kernel
theorem dX6_legible_35 : decode cX6_legible 35 = .ok (.goto (-31), 3) := by decide +kernel
theorem dX6_legible_38 : decode cX6_legible 38 = .ok (.iload_n 1, 1) := by decide +kernel
theorem dX6_legible_39 : decode cX6_legible 39 = .ok (.ireturn, 1) := by decide +kernel
theorem dX6_isCoated_0 : decode cX6_isCoated 0 = .ok (.aload_n 0, 1) := by decide +kernel
theorem dX6_isCoated_1 : decode cX6_isCoated 1 = .ok (.getfield 7, 3) := by decide +kernel
theorem dX6_isCoated_4 : decode cX6_isCoated 4 = .ok (.bipush 15, 2) := by decide +kernel
theorem dX6_isCoated_6 : decode cX6_isCoated 6 = .ok (.iload_n 1, 1) := by decide +kernel
theorem dX6_isCoated_7 : decode cX6_isCoated 7 = .ok (.iadd, 1) := by decide +kernel
theorem dX6_isCoated_8 : decode cX6_isCoated 8 = .ok (.sipush 9999, 3) := by decide +kernel
theorem dX6_isCoated_11 : decode cX6_isCoated 11 = .ok (.aload_n 0, 1) := by decide +kernel
theorem dX6_isCoated_12 : decode cX6_isCoated 12 = .ok (.getfield 7, 3) := by decide +kernel
theorem dX6_isCoated_15 : decode cX6_isCoated 15 = .ok (.bipush 15, 2) := by decide +kernel
theorem dX6_isCoated_17 : decode cX6_isCoated 17 = .ok (.iload_n 1, 1) := by decide +kernel
theorem dX6_isCoated_18 : decode cX6_isCoated 18 = .ok (.iadd, 1) := by decide +kernel
theorem dX6_isCoated_19 : decode cX6_isCoated 19 = .ok (.iaload, 1) := by decide +kernel
theorem dX6_isCoated_20 : decode cX6_isCoated 20 = .ok (.iconst 1, 1) := by decide +kernel
theorem dX6_isCoated_21 : decode cX6_isCoated 21 = .ok (.iadd, 1) := by decide +kernel
theorem dX6_isCoated_22 : decode cX6_isCoated 22 = .ok (.invokestatic 95, 3) := by decide +kernel
theorem dX6_isCoated_25 : decode cX6_isCoated 25 = .ok (.iastore, 1) := by decide +kernel
theorem dX6_isCoated_26 : decode cX6_isCoated 26 = .ok (.iconst 0, 1) := by decide +kernel
theorem dX6_isCoated_27 : decode cX6_isCoated 27 = .ok (.istore_n 2, 1) := by decide +kernel
theorem dX6_isCoated_28 : decode cX6_isCoated 28 = .ok (.iload_n 2, 1) := by decide +kernel
theorem dX6_isCoated_29 : decode cX6_isCoated 29 = .ok (.aload_n 0, 1) := by decide +kernel
theorem dX6_isCoated_30 : decode cX6_isCoated 30 = .ok (.getfield 7, 3) := by decide +kernel
theorem dX6_isCoated_33 : decode cX6_isCoated 33 = .ok (.iconst 0, 1) := by decide +kernel
theorem dX6_isCoated_34 : decode cX6_isCoated 34 = .ok (.iaload, 1) := by decide +kernel
theorem dX6_isCoated_35 : decode cX6_isCoated 35 = .ok (.if_icmp .ge 52, 3) := by decide +kernel
theorem dX6_isCoated_38 : decode cX6_isCoated 38 = .ok (.aload_n 0, 1) := by decide +kernel
theorem dX6_isCoated_39 : decode cX6_isCoated 39 = .ok (.iload_n 2, 1) := by decide +kernel
theorem dX6_isCoated_40 : decode cX6_isCoated 40 = .ok (.iconst 2, 1) := by decide +kernel
theorem dX6_isCoated_41 : decode cX6_isCoated 41 = .ok (.aload_n 0, 1) := by decide +kernel
theorem dX6_isCoated_42 : decode cX6_isCoated 42 = .ok (.iload_n 2, 1) := by decide +kernel
theorem dX6_isCoated_43 : decode cX6_isCoated 43 = .ok (.iconst 3, 1) := by decide +kernel
theorem dX6_isCoated_44 : decode cX6_isCoated 44 = .ok (.invokevirtual 72, 3) := by decide +kernel
theorem dX6_isCoated_47 : decode cX6_isCoated 47 = .ok (.iload_n 1, 1) := by decide +kernel
theorem dX6_isCoated_48 : decode cX6_isCoated 48 = .ok (.if_icmp .ne 24, 3) := by decide +kernel
theorem dX6_isCoated_51 : decode cX6_isCoated 51 = .ok (.sipush 9999, 3) := by decide +kernel
theorem dX6_isCoated_54 : decode cX6_isCoated 54 = .ok (.aload_n 0, 1) := by decide +kernel
theorem dX6_isCoated_55 : decode cX6_isCoated 55 = .ok (.iload_n 2, 1) := by decide +kernel
theorem dX6_isCoated_56 : decode cX6_isCoated 56 = .ok (.iconst 2, 1) := by decide +kernel
theorem dX6_isCoated_57 : decode cX6_isCoated 57 = .ok (.invokevirtual 72, 3) := by decide +kernel
theorem dX6_isCoated_60 : decode cX6_isCoated 60 = .ok (.aload_n 0, 1) := by decide +kernel
theorem dX6_isCoated_61 : decode cX6_isCoated 61 = .ok (.iload_n 2, 1) := by decide +kernel
theorem dX6_isCoated_62 : decode cX6_isCoated 62 = .ok (.invokevirtual 124, 3) := by decide +kernel
theorem dX6_isCoated_65 : decode cX6_isCoated 65 = .ok (.iadd, 1) := by decide +kernel
theorem dX6_isCoated_66 : decode cX6_isCoated 66 = .ok (.invokestatic 95, 3) := by decide +kernel
theorem dX6_isCoated_69 : decode cX6_isCoated 69 = .ok (.goto 9, 3) := by decide +kernel
theorem dX6_isCoated_72 : decode cX6_isCoated 72 = .ok (.aload_n 0, 1) := by decide +kernel
theorem dX6_isCoated_73 : decode cX6_isCoated 73 = .ok (.iload_n 2, 1) := by decide +kernel
theorem dX6_isCoated_74 : decode cX6_isCoated 74 = .ok (.iconst 2, 1) := by decide +kernel
theorem dX6_isCoated_75 : decode cX6_isCoated 75 = .ok (.invokevirtual 72, 3) := by decide +kernel
theorem dX6_isCoated_78 : decode cX6_isCoated 78 = .ok (.invokevirtual 98, 3) := by decide +kernel
theorem dX6_isCoated_81 : decode cX6_isCoated 81 = .ok (.iinc 2 1, 3) := by decide +kernel
theorem dX6_isCoated_84 : decode cX6_isCoated 84 = .ok (.goto (-56), 3) := by decide +kernel
theorem dX6_isCoated_87 : decode cX6_isCoated 87 = .ok (.aload_n 0, 1) := by decide +kernel
theorem dX6_isCoated_88 : decode cX6_isCoated 88 = .ok (.getfield 7, 3) := by decide +kernel
theorem dX6_isCoated_91 : decode cX6_isCoated 91 = .ok (.bipush 9, 2) := by decide +kernel
theorem dX6_isCoated_93 : decode cX6_isCoated 93 = .ok (.iload_n 1, 1) := by decide +kernel
theorem dX6_isCoated_94 : decode cX6_isCoated 94 = .ok (.iadd, 1) := by decide +kernel
theorem dX6_isCoated_95 : decode cX6_isCoated 95 = .ok (.aload_n 0, 1) := by decide +kernel
theorem dX6_isCoated_96 : decode cX6_isCoated 96 = .ok (.getfield 7, 3) := by decide +kernel
theorem dX6_isCoated_99 : decode cX6_isCoated 99 = .ok (.bipush 15, 2) := by decide +kernel
theorem dX6_isCoated_101 : decode cX6_isCoated 101 = .ok (.iload_n 1, 1) := by decide +kernel
theorem dX6_isCoated_102 : decode cX6_isCoated 102 = .ok (.iadd, 1) := by decide +kernel
theorem dX6_isCoated_103 : decode cX6_isCoated 103 = .ok (.iaload, 1) := by decide +kernel
theorem dX6_isCoated_104 : decode cX6_isCoated 104 = .ok (.aload_n 0, 1) := by decide +kernel
theorem dX6_isCoated_105 : decode cX6_isCoated 105 = .ok (.getfield 7, 3) := by decide +kernel
theorem dX6_isCoated_108 : decode cX6_isCoated 108 = .ok (.iconst 3, 1) := by decide +kernel
theorem dX6_isCoated_109 : decode cX6_isCoated 109 = .ok (.iaload, 1) := by decide +kernel
theorem dX6_isCoated_110 : decode cX6_isCoated 110 = .ok (.irem, 1) := by decide +kernel
theorem dX6_isCoated_111 : decode cX6_isCoated 111 = .ok (.ifCond .ne 22, 3) := by decide +kernel
theorem dX6_isCoated_114 : decode cX6_isCoated 114 = .ok (.aload_n 0, 1) := by decide +kernel
theorem dX6_isCoated_115 : decode cX6_isCoated 115 = .ok (.getfield 7, 3) := by decide +kernel
theorem dX6_isCoated_118 : decode cX6_isCoated 118 = .ok (.bipush 9, 2) := by decide +kernel
theorem dX6_isCoated_120 : decode cX6_isCoated 120 = .ok (.iload_n 1, 1) := by decide +kernel
theorem dX6_isCoated_121 : decode cX6_isCoated 121 = .ok (.iadd, 1) := by decide +kernel
theorem dX6_isCoated_122 : decode cX6_isCoated 122 = .ok (.iaload, 1) := by decide +kernel
theorem dX6_isCoated_123 : decode cX6_isCoated 123 = .ok (.iconst 1, 1) := by decide +kernel
theorem dX6_isCoated_124 : decode cX6_isCoated 124 = .ok (.isub, 1) := by decide +kernel
theorem dX6_isCoated_125 : decode cX6_isCoated 125 = .ok (.bipush 99, 2) := by decide +kernel
theorem dX6_isCoated_127 : decode cX6_isCoated 127 = .ok (.invokestatic 80, 3) := by decide +kernel
theorem dX6_isCoated_130 : decode cX6_isCoated 130 = .ok (.goto 12, 3) := by decide +kernel
theorem dX6_isCoated_133 : decode cX6_isCoated 133 = .ok (.aload_n 0, 1) := by decide +kernel
theorem dX6_isCoated_134 : decode cX6_isCoated 134 = .ok (.getfield 7, 3) := by decide +kernel
theorem dX6_isCoated_137 : decode cX6_isCoated 137 = .ok (.bipush 9, 2) := by decide +kernel
theorem dX6_isCoated_139 : decode cX6_isCoated 139 = .ok (.iload_n 1, 1) := by decide +kernel
theorem dX6_isCoated_140 : decode cX6_isCoated 140 = .ok (.iadd, 1) := by decide +kernel
theorem dX6_isCoated_141 : decode cX6_isCoated 141 = .ok (.iaload, 1) := by decide +kernel
theorem dX6_isCoated_142 : decode cX6_isCoated 142 = .ok (.iastore, 1) := by decide +kernel
theorem dX6_isCoated_143 : decode cX6_isCoated 143 = .ok (.return_, 1) := by decide +kernel
theorem dX6_isBreathedOn_0 : decode cX6_isBreathedOn 0 = .ok (.aload_n 0, 1) := by decide +kernel
theorem dX6_isBreathedOn_1 : decode cX6_isBreathedOn 1 = .ok (.invokevirtual 165, 3) := by decide +kernel
theorem dX6_isBreathedOn_4 : decode cX6_isBreathedOn 4 = .ok (.aload_n 0, 1) := by decide +kernel
theorem dX6_isBreathedOn_5 : decode cX6_isBreathedOn 5 = .ok (.iload_n 1, 1) := by decide +kernel
theorem dX6_isBreathedOn_6 : decode cX6_isBreathedOn 6 = .ok (.invokevirtual 83, 3) := by decide +kernel
theorem dX6_isBreathedOn_9 : decode cX6_isBreathedOn 9 = .ok (.iand, 1) := by decide +kernel
theorem dX6_isBreathedOn_10 : decode cX6_isBreathedOn 10 = .ok (.istore_n 2, 1) := by decide +kernel
theorem dX6_isBreathedOn_11 : decode cX6_isBreathedOn 11 = .ok (.iconst 0, 1) := by decide +kernel
theorem dX6_isBreathedOn_12 : decode cX6_isBreathedOn 12 = .ok (.istore_n 3, 1) := by decide +kernel
theorem dX6_isBreathedOn_13 : decode cX6_isBreathedOn 13 = .ok (.iload_n 3, 1) := by decide +kernel
theorem dX6_isBreathedOn_14 : decode cX6_isBreathedOn 14 = .ok (.aload_n 0, 1) := by decide +kernel
theorem dX6_isBreathedOn_15 : decode cX6_isBreathedOn 15 = .ok (.getfield 7, 3) := by decide +kernel
theorem dX6_isBreathedOn_18 : decode cX6_isBreathedOn 18 = .ok (.iconst 0, 1) := by decide +kernel
theorem dX6_isBreathedOn_19 : decode cX6_isBreathedOn 19 = .ok (.iaload, 1) := by decide +kernel
theorem dX6_isBreathedOn_20 : decode cX6_isBreathedOn 20 = .ok (.if_icmp .ge 61, 3) := by decide +kernel
theorem dX6_isBreathedOn_23 : decode cX6_isBreathedOn 23 = .ok (.iload_n 2, 1) := by decide +kernel
theorem dX6_isBreathedOn_24 : decode cX6_isBreathedOn 24 = .ok (.iload_n 3, 1) := by decide +kernel
theorem dX6_isBreathedOn_25 : decode cX6_isBreathedOn 25 = .ok (.ishr, 1) := by decide +kernel
theorem dX6_isBreathedOn_26 : decode cX6_isBreathedOn 26 = .ok (.iconst 1, 1) := by decide +kernel
theorem dX6_isBreathedOn_27 : decode cX6_isBreathedOn 27 = .ok (.iand, 1) := by decide +kernel
theorem dX6_isBreathedOn_28 : decode cX6_isBreathedOn 28 = .ok (.iconst 1, 1) := by decide +kernel
theorem dX6_isBreathedOn_29 : decode cX6_isBreathedOn 29 = .ok (.if_icmp .ne 46, 3) := by decide +kernel
theorem dX6_isBreathedOn_32 : decode cX6_isBreathedOn 32 = .ok (.aload_n 0, 1) := by decide +kernel
theorem dX6_isBreathedOn_33 : decode cX6_isBreathedOn 33 = .ok (.iload_n 3, 1) := by decide +kernel
theorem dX6_isBreathedOn_34 : decode cX6_isBreathedOn 34 = .ok (.iconst 4, 1) := by decide +kernel
theorem dX6_isBreathedOn_35 : decode cX6_isBreathedOn 35 = .ok (.sipush 9999, 3) := by decide +kernel
theorem dX6_isBreathedOn_38 : decode cX6_isBreathedOn 38 = .ok (.aload_n 0, 1) := by decide +kernel
theorem dX6_isBreathedOn_39 : decode cX6_isBreathedOn 39 = .ok (.iload_n 3, 1) := by decide +kernel
theorem dX6_isBreathedOn_40 : decode cX6_isBreathedOn 40 = .ok (.iconst 4, 1) := by decide +kernel
theorem dX6_isBreathedOn_41 : decode cX6_isBreathedOn 41 = .ok (.invokevirtual 72, 3) := by decide +kernel
theorem dX6_isBreathedOn_44 : decode cX6_isBreathedOn 44 = .ok (.iconst 1, 1) := by decide +kernel
theorem dX6_isBreathedOn_45 : decode cX6_isBreathedOn 45 = .ok (.iadd, 1) := by decide +kernel
theorem dX6_isBreathedOn_46 : decode cX6_isBreathedOn 46 = .ok (.invokestatic 95, 3) := by decide +kernel
theorem dX6_isBreathedOn_49 : decode cX6_isBreathedOn 49 = .ok (.invokevirtual 98, 3) := by decide +kernel
theorem dX6_isBreathedOn_52 : decode cX6_isBreathedOn 52 = .ok (.aload_n 0, 1) := by decide +kernel
theorem dX6_isBreathedOn_53 : decode cX6_isBreathedOn 53 = .ok (.iload_n 3, 1) := by decide +kernel
theorem dX6_isBreathedOn_54 : decode cX6_isBreathedOn 54 = .ok (.iconst 1, 1) := by decide +kernel
theorem dX6_isBreathedOn_55 : decode cX6_isBreathedOn 55 = .ok (.aload_n 0, 1) := by decide +kernel
theorem dX6_isBreathedOn_56 : decode cX6_isBreathedOn 56 = .ok (.iload_n 3, 1) := by decide +kernel
theorem dX6_isBreathedOn_57 : decode cX6_isBreathedOn 57 = .ok (.iconst 1, 1) := by decide +kernel
theorem dX6_isBreathedOn_58 : decode cX6_isBreathedOn 58 = .ok (.invokevirtual 72, 3) := by decide +kernel
theorem dX6_isBreathedOn_61 : decode cX6_isBreathedOn 61 = .ok (.aload_n 0, 1) := by decide +kernel
theorem dX6_isBreathedOn_62 : decode cX6_isBreathedOn 62 = .ok (.iload_n 3, 1) := by decide +kernel
theorem dX6_isBreathedOn_63 : decode cX6_isBreathedOn 63 = .ok (.invokevirtual 127, 3) := by decide +kernel
theorem dX6_isBreathedOn_66 : decode cX6_isBreathedOn 66 = .ok (.isub, 1) := by decide +kernel
theorem dX6_isBreathedOn_67 : decode cX6_isBreathedOn 67 = .ok (.bipush 99, 2) := by decide +kernel
theorem dX6_isBreathedOn_69 : decode cX6_isBreathedOn 69 = .ok (.invokestatic 80, 3) := by decide +kernel
theorem dX6_isBreathedOn_72 : decode cX6_isBreathedOn 72 = .ok (.invokevirtual 98, 3) := by decide +kernel
theorem dX6_isBreathedOn_75 : decode cX6_isBreathedOn 75 = .ok (.iinc 3 1, 3) := by decide +kernel
theorem dX6_isBreathedOn_78 : decode cX6_isBreathedOn 78 = .ok (.goto (-65), 3) := by decide +kernel
theorem dX6_isBreathedOn_81 : decode cX6_isBreathedOn 81 = .ok (.aload_n 0, 1) := by decide +kernel
theorem dX6_isBreathedOn_82 : decode cX6_isBreathedOn 82 = .ok (.getfield 7, 3) := by decide +kernel
theorem dX6_isBreathedOn_85 : decode cX6_isBreathedOn 85 = .ok (.bipush 6, 2) := by decide +kernel
theorem dX6_isBreathedOn_87 : decode cX6_isBreathedOn 87 = .ok (.ldc 168, 2) := by decide +kernel
theorem dX6_isBreathedOn_89 : decode cX6_isBreathedOn 89 = .ok (.aload_n 0, 1) := by decide +kernel
theorem dX6_isBreathedOn_90 : decode cX6_isBreathedOn 90 = .ok (.getfield 7, 3) := by decide +kernel
theorem dX6_isBreathedOn_93 : decode cX6_isBreathedOn 93 = .ok (.bipush 6, 2) := by decide +kernel
theorem dX6_isBreathedOn_95 : decode cX6_isBreathedOn 95 = .ok (.iaload, 1) := by decide +kernel
theorem dX6_isBreathedOn_96 : decode cX6_isBreathedOn 96 = .ok (.iload_n 2, 1) := by decide +kernel
theorem dX6_isBreathedOn_97 : decode cX6_isBreathedOn 97 = .ok (.invokestatic 86, 3) := by decide +kernel
theorem dX6_isBreathedOn_100 : decode cX6_isBreathedOn 100 = .ok (.iadd, 1) := by decide +kernel
theorem dX6_isBreathedOn_101 : decode cX6_isBreathedOn 101 = .ok (.invokestatic 95, 3) := by decide +kernel
theorem dX6_isBreathedOn_104 : decode cX6_isBreathedOn 104 = .ok (.iastore, 1) := by decide +kernel
theorem dX6_isBreathedOn_105 : decode cX6_isBreathedOn 105 = .ok (.iload_n 2, 1) := by decide +kernel
theorem dX6_isBreathedOn_106 : decode cX6_isBreathedOn 106 = .ok (.invokestatic 86, 3) := by decide +kernel
theorem dX6_isBreathedOn_109 : decode cX6_isBreathedOn 109 = .ok (.ireturn, 1) := by decide +kernel
theorem dX6_isDug_0 : decode cX6_isDug 0 = .ok (.iload_n 2, 1) := by decide +kernel
theorem dX6_isDug_1 : decode cX6_isDug 1 = .ok (.aload_n 0, 1) := by decide +kernel
theorem dX6_isDug_2 : decode cX6_isDug 2 = .ok (.getfield 7, 3) := by decide +kernel
theorem dX6_isDug_5 : decode cX6_isDug 5 = .ok (.bipush 15, 2) := by decide +kernel
theorem dX6_isDug_7 : decode cX6_isDug 7 = .ok (.iload_n 1, 1) := by decide +kernel
theorem dX6_isDug_8 : decode cX6_isDug 8 = .ok (.iadd, 1) := by decide +kernel
theorem dX6_isDug_9 : decode cX6_isDug 9 = .ok (.iaload, 1) := by decide +kernel
theorem dX6_isDug_10 : decode cX6_isDug 10 = .ok (.invokestatic 95, 3) := by decide +kernel
theorem dX6_isDug_13 : decode cX6_isDug 13 = .ok (.istore_n 3, 1) := by decide +kernel
theorem dX6_isDug_14 : decode cX6_isDug 14 = .ok (.aload_n 0, 1) := by decide +kernel
theorem dX6_isDug_15 : decode cX6_isDug 15 = .ok (.getfield 7, 3) := by decide +kernel
theorem dX6_isDug_18 : decode cX6_isDug 18 = .ok (.bipush 15, 2) := by decide +kernel
theorem dX6_isDug_20 : decode cX6_isDug 20 = .ok (.iload_n 1, 1) := by decide +kernel
theorem dX6_isDug_21 : decode cX6_isDug 21 = .ok (.iadd, 1) := by decide +kernel
theorem dX6_isDug_22 : decode cX6_isDug 22 = .ok (.dup2, 1) := by decide +kernel
theorem dX6_isDug_23 : decode cX6_isDug 23 = .ok (.iaload, 1) := by decide +kernel
theorem dX6_isDug_24 : decode cX6_isDug 24 = .ok (.iload_n 3, 1) := by decide +kernel
theorem dX6_isDug_25 : decode cX6_isDug 25 = .ok (.isub, 1) := by decide +kernel
theorem dX6_isDug_26 : decode cX6_isDug 26 = .ok (.iastore, 1) := by decide +kernel
theorem dX6_isDug_27 : decode cX6_isDug 27 = .ok (.aload_n 0, 1) := by decide +kernel
theorem dX6_isDug_28 : decode cX6_isDug 28 = .ok (.getfield 7, 3) := by decide +kernel
theorem dX6_isDug_31 : decode cX6_isDug 31 = .ok (.bipush 7, 2) := by decide +kernel
theorem dX6_isDug_33 : decode cX6_isDug 33 = .ok (.ldc 168, 2) := by decide +kernel
theorem dX6_isDug_35 : decode cX6_isDug 35 = .ok (.aload_n 0, 1) := by decide +kernel
theorem dX6_isDug_36 : decode cX6_isDug 36 = .ok (.getfield 7, 3) := by decide +kernel
theorem dX6_isDug_39 : decode cX6_isDug 39 = .ok (.bipush 7, 2) := by decide +kernel
theorem dX6_isDug_41 : decode cX6_isDug 41 = .ok (.iaload, 1) := by decide +kernel
theorem dX6_isDug_42 : decode cX6_isDug 42 = .ok (.iload_n 3, 1) := by decide +kernel
theorem dX6_isDug_43 : decode cX6_isDug 43 = .ok (.iadd, 1) := by decide +kernel
theorem dX6_isDug_44 : decode cX6_isDug 44 = .ok (.invokestatic 95, 3) := by decide +kernel
theorem dX6_isDug_47 : decode cX6_isDug 47 = .ok (.iastore, 1) := by decide +kernel
theorem dX6_isDug_48 : decode cX6_isDug 48 = .ok (.aload_n 0, 1) := by decide +kernel
theorem dX6_isDug_49 : decode cX6_isDug 49 = .ok (.getfield 7, 3) := by decide +kernel
theorem dX6_isDug_52 : decode cX6_isDug 52 = .ok (.bipush 9, 2) := by decide +kernel
theorem dX6_isDug_54 : decode cX6_isDug 54 = .ok (.iload_n 1, 1) := by decide +kernel
theorem dX6_isDug_55 : decode cX6_isDug 55 = .ok (.iadd, 1) := by decide +kernel
theorem dX6_isDug_56 : decode cX6_isDug 56 = .ok (.bipush 99, 2) := by decide +kernel
theorem dX6_isDug_58 : decode cX6_isDug 58 = .ok (.aload_n 0, 1) := by decide +kernel
theorem dX6_isDug_59 : decode cX6_isDug 59 = .ok (.getfield 7, 3) := by decide +kernel
theorem dX6_isDug_62 : decode cX6_isDug 62 = .ok (.bipush 9, 2) := by decide +kernel
theorem dX6_isDug_64 : decode cX6_isDug 64 = .ok (.iload_n 1, 1) := by decide +kernel
theorem dX6_isDug_65 : decode cX6_isDug 65 = .ok (.iadd, 1) := by decide +kernel
theorem dX6_isDug_66 : decode cX6_isDug 66 = .ok (.iaload, 1) := by decide +kernel
theorem dX6_isDug_67 : decode cX6_isDug 67 = .ok (.iload_n 2, 1) := by decide +kernel
theorem dX6_isDug_68 : decode cX6_isDug 68 = .ok (.aload_n 0, 1) := by decide +kernel
theorem dX6_isDug_69 : decode cX6_isDug 69 = .ok (.getfield 7, 3) := by decide +kernel
theorem dX6_isDug_72 : decode cX6_isDug 72 = .ok (.iconst 3, 1) := by decide +kernel
theorem dX6_isDug_73 : decode cX6_isDug 73 = .ok (.iaload, 1) := by decide +kernel
theorem dX6_isDug_74 : decode cX6_isDug 74 = .ok (.idiv, 1) := by decide +kernel
theorem dX6_isDug_75 : decode cX6_isDug 75 = .ok (.iadd, 1) := by decide +kernel
theorem dX6_isDug_76 : decode cX6_isDug 76 = .ok (.invokestatic 95, 3) := by decide +kernel
theorem dX6_isDug_79 : decode cX6_isDug 79 = .ok (.iastore, 1) := by decide +kernel
theorem dX6_isDug_80 : decode cX6_isDug 80 = .ok (.iconst 0, 1) := by decide +kernel
theorem dX6_isDug_81 : decode cX6_isDug 81 = .ok (.istore 4, 2) := by decide +kernel
theorem dX6_isDug_83 : decode cX6_isDug 83 = .ok (.iload 4, 2) := by decide +kernel
theorem dX6_isDug_85 : decode cX6_isDug 85 = .ok (.aload_n 0, 1) := by decide +kernel
theorem dX6_isDug_86 : decode cX6_isDug 86 = .ok (.getfield 7, 3) := by decide +kernel
theorem dX6_isDug_89 : decode cX6_isDug 89 = .ok (.iconst 0, 1) := by decide +kernel
theorem dX6_isDug_90 : decode cX6_isDug 90 = .ok (.iaload, 1) := by decide +kernel
theorem dX6_isDug_91 : decode cX6_isDug 91 = .ok (.if_icmp .ge 52, 3) := by decide +kernel
theorem dX6_isDug_94 : decode cX6_isDug 94 = .ok (.aload_n 0, 1) := by decide +kernel
theorem dX6_isDug_95 : decode cX6_isDug 95 = .ok (.iload 4, 2) := by decide +kernel
theorem dX6_isDug_97 : decode cX6_isDug 97 = .ok (.iconst 2, 1) := by decide +kernel
theorem dX6_isDug_98 : decode cX6_isDug 98 = .ok (.aload_n 0, 1) := by decide +kernel
theorem dX6_isDug_99 : decode cX6_isDug 99 = .ok (.iload 4, 2) := by decide +kernel
theorem dX6_isDug_101 : decode cX6_isDug 101 = .ok (.iconst 3, 1) := by decide +kernel
theorem dX6_isDug_102 : decode cX6_isDug 102 = .ok (.invokevirtual 72, 3) := by decide +kernel
theorem dX6_isDug_105 : decode cX6_isDug 105 = .ok (.iload_n 1, 1) := by decide +kernel
theorem dX6_isDug_106 : decode cX6_isDug 106 = .ok (.if_icmp .ne 21, 3) := by decide +kernel
theorem dX6_isDug_109 : decode cX6_isDug 109 = .ok (.aload_n 0, 1) := by decide +kernel
theorem dX6_isDug_110 : decode cX6_isDug 110 = .ok (.iload 4, 2) := by decide +kernel
theorem dX6_isDug_112 : decode cX6_isDug 112 = .ok (.iconst 2, 1) := by decide +kernel
theorem dX6_isDug_113 : decode cX6_isDug 113 = .ok (.invokevirtual 72, 3) := by decide +kernel
theorem dX6_isDug_116 : decode cX6_isDug 116 = .ok (.iload_n 2, 1) := by decide +kernel
theorem dX6_isDug_117 : decode cX6_isDug 117 = .ok (.isub, 1) := by decide +kernel
theorem dX6_isDug_118 : decode cX6_isDug 118 = .ok (.sipush 9999, 3) := by decide +kernel
theorem dX6_isDug_121 : decode cX6_isDug 121 = .ok (.invokestatic 80, 3) := by decide +kernel
theorem dX6_isDug_124 : decode cX6_isDug 124 = .ok (.goto 10, 3) := by decide +kernel
theorem dX6_isDug_127 : decode cX6_isDug 127 = .ok (.aload_n 0, 1) := by decide +kernel
theorem dX6_isDug_128 : decode cX6_isDug 128 = .ok (.iload 4, 2) := by decide +kernel
theorem dX6_isDug_130 : decode cX6_isDug 130 = .ok (.iconst 2, 1) := by decide +kernel
theorem dX6_isDug_131 : decode cX6_isDug 131 = .ok (.invokevirtual 72, 3) := by decide +kernel
theorem dX6_isDug_134 : decode cX6_isDug 134 = .ok (.invokevirtual 98, 3) := by decide +kernel
theorem dX6_isDug_137 : decode cX6_isDug 137 = .ok (.iinc 4 1, 3) := by decide +kernel
theorem dX6_isDug_140 : decode cX6_isDug 140 = .ok (.goto (-57), 3) := by decide +kernel
theorem dX6_isDug_143 : decode cX6_isDug 143 = .ok (.iload_n 3, 1) := by decide +kernel
theorem dX6_isDug_144 : decode cX6_isDug 144 = .ok (.ireturn, 1) := by decide +kernel
theorem dX6_breathe_0 : decode cX6_breathe 0 = .ok (.iload_n 1, 1) := by decide +kernel
theorem dX6_breathe_1 : decode cX6_breathe 1 = .ok (.invokestatic 106, 3) := by decide +kernel
theorem dX6_breathe_4 : decode cX6_breathe 4 = .ok (.ifCond .eq 11, 3) := by decide +kernel
theorem dX6_breathe_7 : decode cX6_breathe 7 = .ok (.aload_n 0, 1) := by decide +kernel
theorem dX6_breathe_8 : decode cX6_breathe 8 = .ok (.iload_n 1, 1) := by decide +kernel
theorem dX6_breathe_9 : decode cX6_breathe 9 = .ok (.invokevirtual 169, 3) := by decide +kernel
theorem dX6_breathe_12 : decode cX6_breathe 12 = .ok (.goto 5, 3) := by decide +kernel
theorem dX6_breathe_15 : decode cX6_breathe 15 = .ok (.ldc 110, 2) := by decide +kernel
theorem dX6_breathe_17 : decode cX6_breathe 17 = .ok (.ireturn, 1) := by decide +kernel
theorem dX6_dig_0 : decode cX6_dig 0 = .ok (.iload_n 1, 1) := by decide +kernel
theorem dX6_dig_1 : decode cX6_dig 1 = .ok (.invokestatic 106, 3) := by decide +kernel
theorem dX6_dig_4 : decode cX6_dig 4 = .ok (.ifCond .eq 24, 3) := by decide +kernel
theorem dX6_dig_7 : decode cX6_dig 7 = .ok (.iload_n 2, 1) := by decide +kernel
theorem dX6_dig_8 : decode cX6_dig 8 = .ok (.i2l, 1) := by decide +kernel
theorem dX6_dig_9 : decode cX6_dig 9 = .ok (.lconst 0, 1) := by decide +kernel
theorem dX6_dig_10 : decode cX6_dig 10 = .ok (.ldc2_w 102, 3) := by decide +kernel
theorem dX6_dig_13 : decode cX6_dig 13 = .ok (.invokestatic 65, 3) := by decide +kernel
theorem dX6_dig_16 : decode cX6_dig 16 = .ok (.ifCond .eq 12, 3) := by decide +kernel
theorem dX6_dig_19 : decode cX6_dig 19 = .ok (.aload_n 0, 1) := by decide +kernel
theorem dX6_dig_20 : decode cX6_dig 20 = .ok (.iload_n 1, 1) := by decide +kernel
theorem dX6_dig_21 : decode cX6_dig 21 = .ok (.iload_n 2, 1) := by decide +kernel
theorem dX6_dig_22 : decode cX6_dig 22 = .ok (.invokevirtual 172, 3) := by decide +kernel
theorem dX6_dig_25 : decode cX6_dig 25 = .ok (.goto 5, 3) := by decide +kernel
theorem dX6_dig_28 : decode cX6_dig 28 = .ok (.ldc 110, 2) := by decide +kernel
theorem dX6_dig_30 : decode cX6_dig 30 = .ok (.ireturn, 1) := by decide +kernel
theorem dX6_goesOn_0 : decode cX6_goesOn 0 = .ok (.iconst 0, 1) := by decide +kernel
theorem dX6_goesOn_1 : decode cX6_goesOn 1 = .ok (.istore_n 1, 1) := by decide +kernel
theorem dX6_goesOn_2 : decode cX6_goesOn 2 = .ok (.iload_n 1, 1) := by decide +kernel
theorem dX6_goesOn_3 : decode cX6_goesOn 3 = .ok (.bipush 6, 2) := by decide +kernel
theorem dX6_goesOn_5 : decode cX6_goesOn 5 = .ok (.if_icmp .ge 14, 3) := by decide +kernel
theorem dX6_goesOn_8 : decode cX6_goesOn 8 = .ok (.aload_n 0, 1) := by decide +kernel
theorem dX6_goesOn_9 : decode cX6_goesOn 9 = .ok (.iload_n 1, 1) := by decide +kernel
theorem dX6_goesOn_10 : decode cX6_goesOn 10 = .ok (.invokevirtual 175, 3) := by decide +kernel
theorem dX6_goesOn_13 : decode cX6_goesOn 13 = .ok (.iinc 1 1, 3) := by decide +kernel
theorem dX6_goesOn_16 : decode cX6_goesOn 16 = .ok (.goto (-14), 3) := by decide +kernel
theorem dX6_goesOn_19 : decode cX6_goesOn 19 = .ok (.aload_n 0, 1) := by decide +kernel
theorem dX6_goesOn_20 : decode cX6_goesOn 20 = .ok (.aload_n 0, 1) := by decide +kernel
theorem dX6_goesOn_21 : decode cX6_goesOn 21 = .ok (.getfield 7, 3) := by decide +kernel
theorem dX6_goesOn_24 : decode cX6_goesOn 24 = .ok (.iconst 2, 1) := by decide +kernel
theorem dX6_goesOn_25 : decode cX6_goesOn 25 = .ok (.iaload, 1) := by decide +kernel
theorem dX6_goesOn_26 : decode cX6_goesOn 26 = .ok (.bipush 6, 2) := by decide +kernel
theorem dX6_goesOn_28 : decode cX6_goesOn 28 = .ok (.irem, 1) := by decide +kernel
theorem dX6_goesOn_29 : decode cX6_goesOn 29 = .ok (.invokevirtual 169, 3) := by decide +kernel
theorem dX6_goesOn_32 : decode cX6_goesOn 32 = .ok (.istore_n 1, 1) := by decide +kernel
theorem dX6_goesOn_33 : decode cX6_goesOn 33 = .ok (.aload_n 0, 1) := by decide +kernel
theorem dX6_goesOn_34 : decode cX6_goesOn 34 = .ok (.invokevirtual 156, 3) := by decide +kernel
theorem dX6_goesOn_37 : decode cX6_goesOn 37 = .ok (.bipush 100, 2) := by decide +kernel
theorem dX6_goesOn_39 : decode cX6_goesOn 39 = .ok (.irem, 1) := by decide +kernel
theorem dX6_goesOn_40 : decode cX6_goesOn 40 = .ok (.aload_n 0, 1) := by decide +kernel
theorem dX6_goesOn_41 : decode cX6_goesOn 41 = .ok (.getfield 7, 3) := by decide +kernel
theorem dX6_goesOn_44 : decode cX6_goesOn 44 = .ok (.iconst 5, 1) := by decide +kernel
theorem dX6_goesOn_45 : decode cX6_goesOn 45 = .ok (.iaload, 1) := by decide +kernel
theorem dX6_goesOn_46 : decode cX6_goesOn 46 = .ok (.if_icmp .ge 24, 3) := by decide +kernel
theorem dX6_goesOn_49 : decode cX6_goesOn 49 = .ok (.aload_n 0, 1) := by decide +kernel
theorem dX6_goesOn_50 : decode cX6_goesOn 50 = .ok (.invokevirtual 156, 3) := by decide +kernel
theorem dX6_goesOn_53 : decode cX6_goesOn 53 = .ok (.bipush 6, 2) := by decide +kernel
theorem dX6_goesOn_55 : decode cX6_goesOn 55 = .ok (.irem, 1) := by decide +kernel
theorem dX6_goesOn_56 : decode cX6_goesOn 56 = .ok (.istore_n 2, 1) := by decide +kernel
theorem dX6_goesOn_57 : decode cX6_goesOn 57 = .ok (.aload_n 0, 1) := by decide +kernel
theorem dX6_goesOn_58 : decode cX6_goesOn 58 = .ok (.iload_n 2, 1) := by decide +kernel
theorem dX6_goesOn_59 : decode cX6_goesOn 59 = .ok (.aload_n 0, 1) := by decide +kernel
theorem dX6_goesOn_60 : decode cX6_goesOn 60 = .ok (.invokevirtual 156, 3) := by decide +kernel
theorem dX6_goesOn_63 : decode cX6_goesOn 63 = .ok (.bipush 10, 2) := by decide +kernel
theorem dX6_goesOn_65 : decode cX6_goesOn 65 = .ok (.irem, 1) := by decide +kernel
theorem dX6_goesOn_66 : decode cX6_goesOn 66 = .ok (.invokevirtual 172, 3) := by decide +kernel
theorem dX6_goesOn_69 : decode cX6_goesOn 69 = .ok (.istore_n 3, 1) := by decide +kernel
theorem dX6_goesOn_70 : decode cX6_goesOn 70 = .ok (.aload_n 0, 1) := by decide +kernel
theorem dX6_goesOn_71 : decode cX6_goesOn 71 = .ok (.getfield 7, 3) := by decide +kernel
theorem dX6_goesOn_74 : decode cX6_goesOn 74 = .ok (.iconst 2, 1) := by decide +kernel
theorem dX6_goesOn_75 : decode cX6_goesOn 75 = .ok (.dup2, 1) := by decide +kernel
theorem dX6_goesOn_76 : decode cX6_goesOn 76 = .ok (.iaload, 1) := by decide +kernel
theorem dX6_goesOn_77 : decode cX6_goesOn 77 = .ok (.iconst 1, 1) := by decide +kernel
theorem dX6_goesOn_78 : decode cX6_goesOn 78 = .ok (.iadd, 1) := by decide +kernel
theorem dX6_goesOn_79 : decode cX6_goesOn 79 = .ok (.iastore, 1) := by decide +kernel
theorem dX6_goesOn_80 : decode cX6_goesOn 80 = .ok (.return_, 1) := by decide +kernel
theorem dX6_goesOnMany_0 : decode cX6_goesOnMany 0 = .ok (.iconst 0, 1) := by decide +kernel
theorem dX6_goesOnMany_1 : decode cX6_goesOnMany 1 = .ok (.istore_n 2, 1) := by decide +kernel
theorem dX6_goesOnMany_2 : decode cX6_goesOnMany 2 = .ok (.iload_n 2, 1) := by decide +kernel
theorem dX6_goesOnMany_3 : decode cX6_goesOnMany 3 = .ok (.iload_n 1, 1) := by decide +kernel
theorem dX6_goesOnMany_4 : decode cX6_goesOnMany 4 = .ok (.if_icmp .ge 13, 3) := by decide +kernel
theorem dX6_goesOnMany_7 : decode cX6_goesOnMany 7 = .ok (.aload_n 0, 1) := by decide +kernel
theorem dX6_goesOnMany_8 : decode cX6_goesOnMany 8 = .ok (.invokevirtual 179, 3) := by decide +kernel
theorem dX6_goesOnMany_11 : decode cX6_goesOnMany 11 = .ok (.iinc 2 1, 3) := by decide +kernel
theorem dX6_goesOnMany_14 : decode cX6_goesOnMany 14 = .ok (.goto (-12), 3) := by decide +kernel
theorem dX6_goesOnMany_17 : decode cX6_goesOnMany 17 = .ok (.return_, 1) := by decide +kernel
theorem dX6_springs_0 : decode cX6_springs 0 = .ok (.iload_n 1, 1) := by decide +kernel
theorem dX6_springs_1 : decode cX6_springs 1 = .ok (.i2l, 1) := by decide +kernel
theorem dX6_springs_2 : decode cX6_springs 2 = .ok (.lconst 1, 1) := by decide +kernel
theorem dX6_springs_3 : decode cX6_springs 3 = .ok (.ldc2_w 152, 3) := by decide +kernel
theorem dX6_springs_6 : decode cX6_springs 6 = .ok (.invokestatic 65, 3) := by decide +kernel
theorem dX6_springs_9 : decode cX6_springs 9 = .ok (.ifCond .ne 6, 3) := by decide +kernel
theorem dX6_springs_12 : decode cX6_springs 12 = .ok (.ldc 110, 2) := by decide +kernel
theorem dX6_springs_14 : decode cX6_springs 14 = .ok (.ireturn, 1) := by decide +kernel
theorem dX6_springs_15 : decode cX6_springs 15 = .ok (.aload_n 0, 1) := by decide +kernel
theorem dX6_springs_16 : decode cX6_springs 16 = .ok (.getfield 7, 3) := by decide +kernel
theorem dX6_springs_19 : decode cX6_springs 19 = .ok (.bipush 6, 2) := by decide +kernel
theorem dX6_springs_21 : decode cX6_springs 21 = .ok (.iaload, 1) := by decide +kernel
theorem dX6_springs_22 : decode cX6_springs 22 = .ok (.istore_n 2, 1) := by decide +kernel
theorem dX6_springs_23 : decode cX6_springs 23 = .ok (.aload_n 0, 1) := by decide +kernel
theorem dX6_springs_24 : decode cX6_springs 24 = .ok (.iload_n 1, 1) := by decide +kernel
theorem dX6_springs_25 : decode cX6_springs 25 = .ok (.sipush 9999, 3) := by decide +kernel
theorem dX6_springs_28 : decode cX6_springs 28 = .ok (.aload_n 0, 1) := by decide +kernel
theorem dX6_springs_29 : decode cX6_springs 29 = .ok (.getfield 7, 3) := by decide +kernel
theorem dX6_springs_32 : decode cX6_springs 32 = .ok (.iconst 2, 1) := by decide +kernel
theorem dX6_springs_33 : decode cX6_springs 33 = .ok (.iaload, 1) := by decide +kernel
theorem dX6_springs_34 : decode cX6_springs 34 = .ok (.isub, 1) := by decide +kernel
theorem dX6_springs_35 : decode cX6_springs 35 = .ok (.invokestatic 95, 3) := by decide +kernel
theorem dX6_springs_38 : decode cX6_springs 38 = .ok (.invokevirtual 182, 3) := by decide +kernel
theorem dX6_springs_41 : decode cX6_springs 41 = .ok (.aload_n 0, 1) := by decide +kernel
theorem dX6_springs_42 : decode cX6_springs 42 = .ok (.getfield 7, 3) := by decide +kernel
theorem dX6_springs_45 : decode cX6_springs 45 = .ok (.bipush 6, 2) := by decide +kernel
theorem dX6_springs_47 : decode cX6_springs 47 = .ok (.iaload, 1) := by decide +kernel
theorem dX6_springs_48 : decode cX6_springs 48 = .ok (.iload_n 2, 1) := by decide +kernel
theorem dX6_springs_49 : decode cX6_springs 49 = .ok (.isub, 1) := by decide +kernel
theorem dX6_springs_50 : decode cX6_springs 50 = .ok (.ireturn, 1) := by decide +kernel
theorem dX6_sumOf_0 : decode cX6_sumOf 0 = .ok (.iconst 0, 1) := by decide +kernel
theorem dX6_sumOf_1 : decode cX6_sumOf 1 = .ok (.istore_n 2, 1) := by decide +kernel
theorem dX6_sumOf_2 : decode cX6_sumOf 2 = .ok (.iconst 0, 1) := by decide +kernel
theorem dX6_sumOf_3 : decode cX6_sumOf 3 = .ok (.istore_n 3, 1) := by decide +kernel
theorem dX6_sumOf_4 : decode cX6_sumOf 4 = .ok (.iload_n 3, 1) := by decide +kernel
theorem dX6_sumOf_5 : decode cX6_sumOf 5 = .ok (.aload_n 0, 1) := by decide +kernel
theorem dX6_sumOf_6 : decode cX6_sumOf 6 = .ok (.getfield 7, 3) := by decide +kernel
theorem dX6_sumOf_9 : decode cX6_sumOf 9 = .ok (.iconst 0, 1) := by decide +kernel
theorem dX6_sumOf_10 : decode cX6_sumOf 10 = .ok (.iaload, 1) := by decide +kernel
theorem dX6_sumOf_11 : decode cX6_sumOf 11 = .ok (.if_icmp .ge 18, 3) := by decide +kernel
theorem dX6_sumOf_14 : decode cX6_sumOf 14 = .ok (.iload_n 2, 1) := by decide +kernel
theorem dX6_sumOf_15 : decode cX6_sumOf 15 = .ok (.aload_n 0, 1) := by decide +kernel
theorem dX6_sumOf_16 : decode cX6_sumOf 16 = .ok (.iload_n 3, 1) := by decide +kernel
theorem dX6_sumOf_17 : decode cX6_sumOf 17 = .ok (.iload_n 1, 1) := by decide +kernel
theorem dX6_sumOf_18 : decode cX6_sumOf 18 = .ok (.invokevirtual 72, 3) := by decide +kernel
theorem dX6_sumOf_21 : decode cX6_sumOf 21 = .ok (.iadd, 1) := by decide +kernel
theorem dX6_sumOf_22 : decode cX6_sumOf 22 = .ok (.istore_n 2, 1) := by decide +kernel
theorem dX6_sumOf_23 : decode cX6_sumOf 23 = .ok (.iinc 3 1, 3) := by decide +kernel
theorem dX6_sumOf_26 : decode cX6_sumOf 26 = .ok (.goto (-22), 3) := by decide +kernel
theorem dX6_sumOf_29 : decode cX6_sumOf 29 = .ok (.iload_n 2, 1) := by decide +kernel
theorem dX6_sumOf_30 : decode cX6_sumOf 30 = .ok (.ireturn, 1) := by decide +kernel
theorem dX6_narrowest_0 : decode cX6_narrowest 0 = .ok (.iconst 0, 1) := by decide +kernel
theorem dX6_narrowest_1 : decode cX6_narrowest 1 = .ok (.istore_n 1, 1) := by decide +kernel
theorem dX6_narrowest_2 : decode cX6_narrowest 2 = .ok (.iconst 1, 1) := by decide +kernel
theorem dX6_narrowest_3 : decode cX6_narrowest 3 = .ok (.istore_n 2, 1) := by decide +kernel
theorem dX6_narrowest_4 : decode cX6_narrowest 4 = .ok (.iload_n 2, 1) := by decide +kernel
theorem dX6_narrowest_5 : decode cX6_narrowest 5 = .ok (.bipush 6, 2) := by decide +kernel
theorem dX6_narrowest_7 : decode cX6_narrowest 7 = .ok (.if_icmp .ge 36, 3) := by decide +kernel
theorem dX6_narrowest_10 : decode cX6_narrowest 10 = .ok (.aload_n 0, 1) := by decide +kernel
theorem dX6_narrowest_11 : decode cX6_narrowest 11 = .ok (.getfield 7, 3) := by decide +kernel
theorem dX6_narrowest_14 : decode cX6_narrowest 14 = .ok (.bipush 9, 2) := by decide +kernel
theorem dX6_narrowest_16 : decode cX6_narrowest 16 = .ok (.iload_n 2, 1) := by decide +kernel
theorem dX6_narrowest_17 : decode cX6_narrowest 17 = .ok (.iadd, 1) := by decide +kernel
theorem dX6_narrowest_18 : decode cX6_narrowest 18 = .ok (.iaload, 1) := by decide +kernel
theorem dX6_narrowest_19 : decode cX6_narrowest 19 = .ok (.aload_n 0, 1) := by decide +kernel
theorem dX6_narrowest_20 : decode cX6_narrowest 20 = .ok (.getfield 7, 3) := by decide +kernel
theorem dX6_narrowest_23 : decode cX6_narrowest 23 = .ok (.bipush 9, 2) := by decide +kernel
theorem dX6_narrowest_25 : decode cX6_narrowest 25 = .ok (.iload_n 1, 1) := by decide +kernel
theorem dX6_narrowest_26 : decode cX6_narrowest 26 = .ok (.iadd, 1) := by decide +kernel
theorem dX6_narrowest_27 : decode cX6_narrowest 27 = .ok (.iaload, 1) := by decide +kernel
theorem dX6_narrowest_28 : decode cX6_narrowest 28 = .ok (.if_icmp .ge 7, 3) := by decide +kernel
theorem dX6_narrowest_31 : decode cX6_narrowest 31 = .ok (.iload_n 2, 1) := by decide +kernel
theorem dX6_narrowest_32 : decode cX6_narrowest 32 = .ok (.goto 4, 3) := by decide +kernel
theorem dX6_narrowest_35 : decode cX6_narrowest 35 = .ok (.iload_n 1, 1) := by decide +kernel
theorem dX6_narrowest_36 : decode cX6_narrowest 36 = .ok (.istore_n 1, 1) := by decide +kernel
theorem dX6_narrowest_37 : decode cX6_narrowest 37 = .ok (.iinc 2 1, 3) := by decide +kernel
theorem dX6_narrowest_40 : decode cX6_narrowest 40 = .ok (.goto (-36), 3) := by decide +kernel
theorem dX6_narrowest_43 : decode cX6_narrowest 43 = .ok (.iload_n 1, 1) := by decide +kernel
theorem dX6_narrowest_44 : decode cX6_narrowest 44 = .ok (.ireturn, 1) := by decide +kernel
theorem dX6_wallsOf_0 : decode cX6_wallsOf 0 = .ok (.iload_n 1, 1) := by decide +kernel
theorem dX6_wallsOf_1 : decode cX6_wallsOf 1 = .ok (.tableswitch 59 0 3 #[31, 39, 47, 53], 31) := by decide +kernel
theorem dX6_wallsOf_32 : decode cX6_wallsOf 32 = .ok (.aload_n 0, 1) := by decide +kernel
theorem dX6_wallsOf_33 : decode cX6_wallsOf 33 = .ok (.getfield 7, 3) := by decide +kernel
theorem dX6_wallsOf_36 : decode cX6_wallsOf 36 = .ok (.bipush 6, 2) := by decide +kernel
theorem dX6_wallsOf_38 : decode cX6_wallsOf 38 = .ok (.iaload, 1) := by decide +kernel
theorem dX6_wallsOf_39 : decode cX6_wallsOf 39 = .ok (.ireturn, 1) := by decide +kernel
theorem dX6_wallsOf_40 : decode cX6_wallsOf 40 = .ok (.aload_n 0, 1) := by decide +kernel
theorem dX6_wallsOf_41 : decode cX6_wallsOf 41 = .ok (.getfield 7, 3) := by decide +kernel
theorem dX6_wallsOf_44 : decode cX6_wallsOf 44 = .ok (.bipush 7, 2) := by decide +kernel
theorem dX6_wallsOf_46 : decode cX6_wallsOf 46 = .ok (.iaload, 1) := by decide +kernel
theorem dX6_wallsOf_47 : decode cX6_wallsOf 47 = .ok (.ireturn, 1) := by decide +kernel
theorem dX6_wallsOf_48 : decode cX6_wallsOf 48 = .ok (.aload_n 0, 1) := by decide +kernel
theorem dX6_wallsOf_49 : decode cX6_wallsOf 49 = .ok (.iconst 2, 1) := by decide +kernel
theorem dX6_wallsOf_50 : decode cX6_wallsOf 50 = .ok (.invokevirtual 185, 3) := by decide +kernel
theorem dX6_wallsOf_53 : decode cX6_wallsOf 53 = .ok (.ireturn, 1) := by decide +kernel
theorem dX6_wallsOf_54 : decode cX6_wallsOf 54 = .ok (.aload_n 0, 1) := by decide +kernel
theorem dX6_wallsOf_55 : decode cX6_wallsOf 55 = .ok (.iconst 1, 1) := by decide +kernel
theorem dX6_wallsOf_56 : decode cX6_wallsOf 56 = .ok (.invokevirtual 185, 3) := by decide +kernel
theorem dX6_wallsOf_59 : decode cX6_wallsOf 59 = .ok (.ireturn, 1) := by decide +kernel
theorem dX6_wallsOf_60 : decode cX6_wallsOf 60 = .ok (.aload_n 0, 1) := by decide +kernel
theorem dX6_wallsOf_61 : decode cX6_wallsOf 61 = .ok (.iconst 4, 1) := by decide +kernel
theorem dX6_wallsOf_62 : decode cX6_wallsOf 62 = .ok (.invokevirtual 185, 3) := by decide +kernel
theorem dX6_wallsOf_65 : decode cX6_wallsOf 65 = .ok (.ireturn, 1) := by decide +kernel
theorem dX6_walls_0 : decode cX6_walls 0 = .ok (.iload_n 1, 1) := by decide +kernel
theorem dX6_walls_1 : decode cX6_walls 1 = .ok (.i2l, 1) := by decide +kernel
theorem dX6_walls_2 : decode cX6_walls 2 = .ok (.lconst 0, 1) := by decide +kernel
theorem dX6_walls_3 : decode cX6_walls 3 = .ok (.ldc2_w 141, 3) := by decide +kernel
theorem dX6_walls_6 : decode cX6_walls 6 = .ok (.invokestatic 65, 3) := by decide +kernel
theorem dX6_walls_9 : decode cX6_walls 9 = .ok (.ifCond .eq 11, 3) := by decide +kernel
theorem dX6_walls_12 : decode cX6_walls 12 = .ok (.aload_n 0, 1) := by decide +kernel
theorem dX6_walls_13 : decode cX6_walls 13 = .ok (.iload_n 1, 1) := by decide +kernel
theorem dX6_walls_14 : decode cX6_walls 14 = .ok (.invokevirtual 188, 3) := by decide +kernel
theorem dX6_walls_17 : decode cX6_walls 17 = .ok (.goto 30, 3) := by decide +kernel
theorem dX6_walls_20 : decode cX6_walls 20 = .ok (.iload_n 1, 1) := by decide +kernel
theorem dX6_walls_21 : decode cX6_walls 21 = .ok (.iconst 5, 1) := by decide +kernel
theorem dX6_walls_22 : decode cX6_walls 22 = .ok (.if_icmp .ne 10, 3) := by decide +kernel
theorem dX6_walls_25 : decode cX6_walls 25 = .ok (.aload_n 0, 1) := by decide +kernel
theorem dX6_walls_26 : decode cX6_walls 26 = .ok (.invokevirtual 191, 3) := by decide +kernel
theorem dX6_walls_29 : decode cX6_walls 29 = .ok (.goto 18, 3) := by decide +kernel
theorem dX6_walls_32 : decode cX6_walls 32 = .ok (.iload_n 1, 1) := by decide +kernel
theorem dX6_walls_33 : decode cX6_walls 33 = .ok (.bipush 6, 2) := by decide +kernel
theorem dX6_walls_35 : decode cX6_walls 35 = .ok (.if_icmp .ne 10, 3) := by decide +kernel
theorem dX6_walls_38 : decode cX6_walls 38 = .ok (.aload_n 0, 1) := by decide +kernel
theorem dX6_walls_39 : decode cX6_walls 39 = .ok (.invokevirtual 165, 3) := by decide +kernel
theorem dX6_walls_42 : decode cX6_walls 42 = .ok (.goto 5, 3) := by decide +kernel
theorem dX6_walls_45 : decode cX6_walls 45 = .ok (.ldc 110, 2) := by decide +kernel
theorem dX6_walls_47 : decode cX6_walls 47 = .ok (.ireturn, 1) := by decide +kernel
theorem dX6_laysBy_0 : decode cX6_laysBy 0 = .ok (.iconst 0, 1) := by decide +kernel
theorem dX6_laysBy_1 : decode cX6_laysBy 1 = .ok (.istore_n 1, 1) := by decide +kernel
theorem dX6_laysBy_2 : decode cX6_laysBy 2 = .ok (.iload_n 1, 1) := by decide +kernel
theorem dX6_laysBy_3 : decode cX6_laysBy 3 = .ok (.bipush 71, 2) := by decide +kernel
theorem dX6_laysBy_5 : decode cX6_laysBy 5 = .ok (.if_icmp .ge 21, 3) := by decide +kernel
theorem dX6_laysBy_8 : decode cX6_laysBy 8 = .ok (.aload_n 0, 1) := by decide +kernel
theorem dX6_laysBy_9 : decode cX6_laysBy 9 = .ok (.getfield 43, 3) := by decide +kernel
theorem dX6_laysBy_12 : decode cX6_laysBy 12 = .ok (.iload_n 1, 1) := by decide +kernel
theorem dX6_laysBy_13 : decode cX6_laysBy 13 = .ok (.aload_n 0, 1) := by decide +kernel
theorem dX6_laysBy_14 : decode cX6_laysBy 14 = .ok (.getfield 7, 3) := by decide +kernel
theorem dX6_laysBy_17 : decode cX6_laysBy 17 = .ok (.iload_n 1, 1) := by decide +kernel
theorem dX6_laysBy_18 : decode cX6_laysBy 18 = .ok (.iaload, 1) := by decide +kernel
theorem dX6_laysBy_19 : decode cX6_laysBy 19 = .ok (.iastore, 1) := by decide +kernel
theorem dX6_laysBy_20 : decode cX6_laysBy 20 = .ok (.iinc 1 1, 3) := by decide +kernel
theorem dX6_laysBy_23 : decode cX6_laysBy 23 = .ok (.goto (-21), 3) := by decide +kernel
theorem dX6_laysBy_26 : decode cX6_laysBy 26 = .ok (.return_, 1) := by decide +kernel
theorem dX6_laysBack_0 : decode cX6_laysBack 0 = .ok (.iconst 0, 1) := by decide +kernel
theorem dX6_laysBack_1 : decode cX6_laysBack 1 = .ok (.istore_n 1, 1) := by decide +kernel
theorem dX6_laysBack_2 : decode cX6_laysBack 2 = .ok (.iload_n 1, 1) := by decide +kernel
theorem dX6_laysBack_3 : decode cX6_laysBack 3 = .ok (.bipush 71, 2) := by decide +kernel
theorem dX6_laysBack_5 : decode cX6_laysBack 5 = .ok (.if_icmp .ge 21, 3) := by decide +kernel
theorem dX6_laysBack_8 : decode cX6_laysBack 8 = .ok (.aload_n 0, 1) := by decide +kernel
theorem dX6_laysBack_9 : decode cX6_laysBack 9 = .ok (.getfield 7, 3) := by decide +kernel
theorem dX6_laysBack_12 : decode cX6_laysBack 12 = .ok (.iload_n 1, 1) := by decide +kernel
theorem dX6_laysBack_13 : decode cX6_laysBack 13 = .ok (.aload_n 0, 1) := by decide +kernel
theorem dX6_laysBack_14 : decode cX6_laysBack 14 = .ok (.getfield 43, 3) := by decide +kernel
theorem dX6_laysBack_17 : decode cX6_laysBack 17 = .ok (.iload_n 1, 1) := by decide +kernel
theorem dX6_laysBack_18 : decode cX6_laysBack 18 = .ok (.iaload, 1) := by decide +kernel
theorem dX6_laysBack_19 : decode cX6_laysBack 19 = .ok (.iastore, 1) := by decide +kernel
theorem dX6_laysBack_20 : decode cX6_laysBack 20 = .ok (.iinc 1 1, 3) := by decide +kernel
theorem dX6_laysBack_23 : decode cX6_laysBack 23 = .ok (.goto (-21), 3) := by decide +kernel
theorem dX6_laysBack_26 : decode cX6_laysBack 26 = .ok (.return_, 1) := by decide +kernel
theorem dX6_behind_0 : decode cX6_behind 0 = .ok (.iload_n 1, 1) := by decide +kernel
theorem dX6_behind_1 : decode cX6_behind 1 = .ok (.i2l, 1) := by decide +kernel
theorem dX6_behind_2 : decode cX6_behind 2 = .ok (.lconst 0, 1) := by decide +kernel
theorem dX6_behind_3 : decode cX6_behind 3 = .ok (.ldc2_w 152, 3) := by decide +kernel
theorem dX6_behind_6 : decode cX6_behind 6 = .ok (.invokestatic 65, 3) := by decide +kernel
theorem dX6_behind_9 : decode cX6_behind 9 = .ok (.ifCond .eq 22, 3) := by decide +kernel
theorem dX6_behind_12 : decode cX6_behind 12 = .ok (.iload_n 2, 1) := by decide +kernel
theorem dX6_behind_13 : decode cX6_behind 13 = .ok (.ifCond .lt 18, 3) := by decide +kernel
theorem dX6_behind_16 : decode cX6_behind 16 = .ok (.iload_n 2, 1) := by decide +kernel
theorem dX6_behind_17 : decode cX6_behind 17 = .ok (.iconst 4, 1) := by decide +kernel
theorem dX6_behind_18 : decode cX6_behind 18 = .ok (.if_icmp .le 16, 3) := by decide +kernel
theorem dX6_behind_21 : decode cX6_behind 21 = .ok (.aload_n 0, 1) := by decide +kernel
theorem dX6_behind_22 : decode cX6_behind 22 = .ok (.iload_n 2, 1) := by decide +kernel
theorem dX6_behind_23 : decode cX6_behind 23 = .ok (.iconst 5, 1) := by decide +kernel
theorem dX6_behind_24 : decode cX6_behind 24 = .ok (.isub, 1) := by decide +kernel
theorem dX6_behind_25 : decode cX6_behind 25 = .ok (.invokevirtual 116, 3) := by decide +kernel
theorem dX6_behind_28 : decode cX6_behind 28 = .ok (.ifCond .ne 6, 3) := by decide +kernel
theorem dX6_behind_31 : decode cX6_behind 31 = .ok (.ldc 110, 2) := by decide +kernel
theorem dX6_behind_33 : decode cX6_behind 33 = .ok (.ireturn, 1) := by decide +kernel
theorem dX6_behind_34 : decode cX6_behind 34 = .ok (.aload_n 0, 1) := by decide +kernel
theorem dX6_behind_35 : decode cX6_behind 35 = .ok (.invokevirtual 194, 3) := by decide +kernel
theorem dX6_behind_38 : decode cX6_behind 38 = .ok (.aload_n 0, 1) := by decide +kernel
theorem dX6_behind_39 : decode cX6_behind 39 = .ok (.iload_n 1, 1) := by decide +kernel
theorem dX6_behind_40 : decode cX6_behind 40 = .ok (.invokevirtual 182, 3) := by decide +kernel
theorem dX6_behind_43 : decode cX6_behind 43 = .ok (.iload_n 2, 1) := by decide +kernel
theorem dX6_behind_44 : decode cX6_behind 44 = .ok (.iconst 5, 1) := by decide +kernel
theorem dX6_behind_45 : decode cX6_behind 45 = .ok (.if_icmp .ge 11, 3) := by decide +kernel
theorem dX6_behind_48 : decode cX6_behind 48 = .ok (.aload_n 0, 1) := by decide +kernel
theorem dX6_behind_49 : decode cX6_behind 49 = .ok (.iload_n 2, 1) := by decide +kernel
theorem dX6_behind_50 : decode cX6_behind 50 = .ok (.invokevirtual 188, 3) := by decide +kernel
theorem dX6_behind_53 : decode cX6_behind 53 = .ok (.goto 11, 3) := by decide +kernel
theorem dX6_behind_56 : decode cX6_behind 56 = .ok (.aload_n 0, 1) := by decide +kernel
theorem dX6_behind_57 : decode cX6_behind 57 = .ok (.iload_n 2, 1) := by decide +kernel
theorem dX6_behind_58 : decode cX6_behind 58 = .ok (.iconst 5, 1) := by decide +kernel
theorem dX6_behind_59 : decode cX6_behind 59 = .ok (.isub, 1) := by decide +kernel
theorem dX6_behind_60 : decode cX6_behind 60 = .ok (.iconst 2, 1) := by decide +kernel
theorem dX6_behind_61 : decode cX6_behind 61 = .ok (.invokevirtual 72, 3) := by decide +kernel
theorem dX6_behind_64 : decode cX6_behind 64 = .ok (.istore_n 3, 1) := by decide +kernel
theorem dX6_behind_65 : decode cX6_behind 65 = .ok (.aload_n 0, 1) := by decide +kernel
theorem dX6_behind_66 : decode cX6_behind 66 = .ok (.invokevirtual 197, 3) := by decide +kernel
theorem dX6_behind_69 : decode cX6_behind 69 = .ok (.iload_n 3, 1) := by decide +kernel
theorem dX6_behind_70 : decode cX6_behind 70 = .ok (.ireturn, 1) := by decide +kernel
theorem dX6_lost_0 : decode cX6_lost 0 = .ok (.aload_n 0, 1) := by decide +kernel
theorem dX6_lost_1 : decode cX6_lost 1 = .ok (.iload_n 1, 1) := by decide +kernel
theorem dX6_lost_2 : decode cX6_lost 2 = .ok (.invokevirtual 116, 3) := by decide +kernel
theorem dX6_lost_5 : decode cX6_lost 5 = .ok (.ifCond .ne 6, 3) := by decide +kernel
theorem dX6_lost_8 : decode cX6_lost 8 = .ok (.ldc 110, 2) := by decide +kernel
theorem dX6_lost_10 : decode cX6_lost 10 = .ok (.ireturn, 1) := by decide +kernel
theorem dX6_lost_11 : decode cX6_lost 11 = .ok (.aload_n 0, 1) := by decide +kernel
theorem dX6_lost_12 : decode cX6_lost 12 = .ok (.invokevirtual 194, 3) := by decide +kernel
theorem dX6_lost_15 : decode cX6_lost 15 = .ok (.iconst 0, 1) := by decide +kernel
theorem dX6_lost_16 : decode cX6_lost 16 = .ok (.istore_n 2, 1) := by decide +kernel
theorem dX6_lost_17 : decode cX6_lost 17 = .ok (.iload_n 2, 1) := by decide +kernel
theorem dX6_lost_18 : decode cX6_lost 18 = .ok (.sipush 200, 3) := by decide +kernel
theorem dX6_lost_21 : decode cX6_lost 21 = .ok (.if_icmp .gt 21, 3) := by decide +kernel
theorem dX6_lost_24 : decode cX6_lost 24 = .ok (.aload_n 0, 1) := by decide +kernel
theorem dX6_lost_25 : decode cX6_lost 25 = .ok (.iload_n 1, 1) := by decide +kernel
theorem dX6_lost_26 : decode cX6_lost 26 = .ok (.invokevirtual 162, 3) := by decide +kernel
theorem dX6_lost_29 : decode cX6_lost 29 = .ok (.ifCond .eq 13, 3) := by decide +kernel
theorem dX6_lost_32 : decode cX6_lost 32 = .ok (.aload_n 0, 1) := by decide +kernel
theorem dX6_lost_33 : decode cX6_lost 33 = .ok (.invokevirtual 179, 3) := by decide +kernel
theorem dX6_lost_36 : decode cX6_lost 36 = .ok (.iinc 2 1, 3) := by decide +kernel
theorem dX6_lost_39 : decode cX6_lost 39 = .ok (.goto (-22), 3) := by decide +kernel
theorem dX6_lost_42 : decode cX6_lost 42 = .ok (.aload_n 0, 1) := by decide +kernel
theorem dX6_lost_43 : decode cX6_lost 43 = .ok (.invokevirtual 197, 3) := by decide +kernel
theorem dX6_lost_46 : decode cX6_lost 46 = .ok (.iload_n 2, 1) := by decide +kernel
theorem dX6_lost_47 : decode cX6_lost 47 = .ok (.sipush 200, 3) := by decide +kernel
theorem dX6_lost_50 : decode cX6_lost 50 = .ok (.if_icmp .gt 7, 3) := by decide +kernel
theorem dX6_lost_53 : decode cX6_lost 53 = .ok (.iload_n 2, 1) := by decide +kernel
theorem dX6_lost_54 : decode cX6_lost 54 = .ok (.goto 5, 3) := by decide +kernel
theorem dX6_lost_57 : decode cX6_lost 57 = .ok (.ldc 64, 2) := by decide +kernel
theorem dX6_lost_59 : decode cX6_lost 59 = .ok (.ireturn, 1) := by decide +kernel
theorem dX6_solid_0 : decode cX6_solid 0 = .ok (.iload_n 1, 1) := by decide +kernel
theorem dX6_solid_1 : decode cX6_solid 1 = .ok (.invokestatic 106, 3) := by decide +kernel
theorem dX6_solid_4 : decode cX6_solid 4 = .ok (.ifCond .ne 6, 3) := by decide +kernel
theorem dX6_solid_7 : decode cX6_solid 7 = .ok (.ldc 110, 2) := by decide +kernel
theorem dX6_solid_9 : decode cX6_solid 9 = .ok (.ireturn, 1) := by decide +kernel
theorem dX6_solid_10 : decode cX6_solid 10 = .ok (.aload_n 0, 1) := by decide +kernel
theorem dX6_solid_11 : decode cX6_solid 11 = .ok (.invokevirtual 194, 3) := by decide +kernel
theorem dX6_solid_14 : decode cX6_solid 14 = .ok (.iconst 0, 1) := by decide +kernel
theorem dX6_solid_15 : decode cX6_solid 15 = .ok (.istore_n 2, 1) := by decide +kernel
theorem dX6_solid_16 : decode cX6_solid 16 = .ok (.iload_n 2, 1) := by decide +kernel
theorem dX6_solid_17 : decode cX6_solid 17 = .ok (.sipush 200, 3) := by decide +kernel
theorem dX6_solid_20 : decode cX6_solid 20 = .ok (.if_icmp .gt 25, 3) := by decide +kernel
theorem dX6_solid_23 : decode cX6_solid 23 = .ok (.aload_n 0, 1) := by decide +kernel
theorem dX6_solid_24 : decode cX6_solid 24 = .ok (.getfield 7, 3) := by decide +kernel
theorem dX6_solid_27 : decode cX6_solid 27 = .ok (.bipush 9, 2) := by decide +kernel
theorem dX6_solid_29 : decode cX6_solid 29 = .ok (.iload_n 1, 1) := by decide +kernel
theorem dX6_solid_30 : decode cX6_solid 30 = .ok (.iadd, 1) := by decide +kernel
theorem dX6_solid_31 : decode cX6_solid 31 = .ok (.iaload, 1) := by decide +kernel
theorem dX6_solid_32 : decode cX6_solid 32 = .ok (.ifCond .le 13, 3) := by decide +kernel
theorem dX6_solid_35 : decode cX6_solid 35 = .ok (.aload_n 0, 1) := by decide +kernel
theorem dX6_solid_36 : decode cX6_solid 36 = .ok (.invokevirtual 179, 3) := by decide +kernel
theorem dX6_solid_39 : decode cX6_solid 39 = .ok (.iinc 2 1, 3) := by decide +kernel
theorem dX6_solid_42 : decode cX6_solid 42 = .ok (.goto (-26), 3) := by decide +kernel
theorem dX6_solid_45 : decode cX6_solid 45 = .ok (.aload_n 0, 1) := by decide +kernel
theorem dX6_solid_46 : decode cX6_solid 46 = .ok (.invokevirtual 197, 3) := by decide +kernel
theorem dX6_solid_49 : decode cX6_solid 49 = .ok (.iload_n 2, 1) := by decide +kernel
theorem dX6_solid_50 : decode cX6_solid 50 = .ok (.sipush 200, 3) := by decide +kernel
theorem dX6_solid_53 : decode cX6_solid 53 = .ok (.if_icmp .gt 7, 3) := by decide +kernel
theorem dX6_solid_56 : decode cX6_solid 56 = .ok (.iload_n 2, 1) := by decide +kernel
theorem dX6_solid_57 : decode cX6_solid 57 = .ok (.goto 5, 3) := by decide +kernel
theorem dX6_solid_60 : decode cX6_solid 60 = .ok (.ldc 64, 2) := by decide +kernel
theorem dX6_solid_62 : decode cX6_solid 62 = .ok (.ireturn, 1) := by decide +kernel
theorem dX6_spoon_0 : decode cX6_spoon 0 = .ok (.aload_n 0, 1) := by decide +kernel
theorem dX6_spoon_1 : decode cX6_spoon 1 = .ok (.iload_n 1, 1) := by decide +kernel
theorem dX6_spoon_2 : decode cX6_spoon 2 = .ok (.invokevirtual 116, 3) := by decide +kernel
theorem dX6_spoon_5 : decode cX6_spoon 5 = .ok (.ifCond .eq 15, 3) := by decide +kernel
theorem dX6_spoon_8 : decode cX6_spoon 8 = .ok (.iload_n 2, 1) := by decide +kernel
theorem dX6_spoon_9 : decode cX6_spoon 9 = .ok (.i2l, 1) := by decide +kernel
theorem dX6_spoon_10 : decode cX6_spoon 10 = .ok (.lconst 0, 1) := by decide +kernel
theorem dX6_spoon_11 : decode cX6_spoon 11 = .ok (.ldc2_w 200, 3) := by decide +kernel
theorem dX6_spoon_14 : decode cX6_spoon 14 = .ok (.invokestatic 65, 3) := by decide +kernel
theorem dX6_spoon_17 : decode cX6_spoon 17 = .ok (.ifCond .ne 6, 3) := by decide +kernel
theorem dX6_spoon_20 : decode cX6_spoon 20 = .ok (.ldc 110, 2) := by decide +kernel
theorem dX6_spoon_22 : decode cX6_spoon 22 = .ok (.ireturn, 1) := by decide +kernel
theorem dX6_spoon_23 : decode cX6_spoon 23 = .ok (.aload_n 0, 1) := by decide +kernel
theorem dX6_spoon_24 : decode cX6_spoon 24 = .ok (.invokevirtual 194, 3) := by decide +kernel
theorem dX6_spoon_27 : decode cX6_spoon 27 = .ok (.ldc 64, 2) := by decide +kernel
theorem dX6_spoon_29 : decode cX6_spoon 29 = .ok (.istore_n 3, 1) := by decide +kernel
theorem dX6_spoon_30 : decode cX6_spoon 30 = .ok (.iconst 0, 1) := by decide +kernel
theorem dX6_spoon_31 : decode cX6_spoon 31 = .ok (.istore 4, 2) := by decide +kernel
theorem dX6_spoon_33 : decode cX6_spoon 33 = .ok (.iload 4, 2) := by decide +kernel
theorem dX6_spoon_35 : decode cX6_spoon 35 = .ok (.bipush 99, 2) := by decide +kernel
theorem dX6_spoon_37 : decode cX6_spoon 37 = .ok (.if_icmp .gt 52, 3) := by decide +kernel
theorem dX6_spoon_40 : decode cX6_spoon 40 = .ok (.iload_n 3, 1) := by decide +kernel
theorem dX6_spoon_41 : decode cX6_spoon 41 = .ok (.ifCond .ge 48, 3) := by decide +kernel
theorem dX6_spoon_44 : decode cX6_spoon 44 = .ok (.aload_n 0, 1) := by decide +kernel
theorem dX6_spoon_45 : decode cX6_spoon 45 = .ok (.aload_n 0, 1) := by decide +kernel
theorem dX6_spoon_46 : decode cX6_spoon 46 = .ok (.iload_n 1, 1) := by decide +kernel
theorem dX6_spoon_47 : decode cX6_spoon 47 = .ok (.iconst 3, 1) := by decide +kernel
theorem dX6_spoon_48 : decode cX6_spoon 48 = .ok (.invokevirtual 72, 3) := by decide +kernel
theorem dX6_spoon_51 : decode cX6_spoon 51 = .ok (.iload 4, 2) := by decide +kernel
theorem dX6_spoon_53 : decode cX6_spoon 53 = .ok (.invokevirtual 172, 3) := by decide +kernel
theorem dX6_spoon_56 : decode cX6_spoon 56 = .ok (.istore 5, 2) := by decide +kernel
theorem dX6_spoon_58 : decode cX6_spoon 58 = .ok (.aload_n 0, 1) := by decide +kernel
theorem dX6_spoon_59 : decode cX6_spoon 59 = .ok (.iload_n 2, 1) := by decide +kernel
theorem dX6_spoon_60 : decode cX6_spoon 60 = .ok (.invokevirtual 182, 3) := by decide +kernel
theorem dX6_spoon_63 : decode cX6_spoon 63 = .ok (.aload_n 0, 1) := by decide +kernel
theorem dX6_spoon_64 : decode cX6_spoon 64 = .ok (.iload_n 1, 1) := by decide +kernel
theorem dX6_spoon_65 : decode cX6_spoon 65 = .ok (.invokevirtual 162, 3) := by decide +kernel
theorem dX6_spoon_68 : decode cX6_spoon 68 = .ok (.ifCond .eq 8, 3) := by decide +kernel
theorem dX6_spoon_71 : decode cX6_spoon 71 = .ok (.iload 4, 2) := by decide +kernel
theorem dX6_spoon_73 : decode cX6_spoon 73 = .ok (.goto 5, 3) := by decide +kernel
theorem dX6_spoon_76 : decode cX6_spoon 76 = .ok (.ldc 64, 2) := by decide +kernel
theorem dX6_spoon_78 : decode cX6_spoon 78 = .ok (.istore_n 3, 1) := by decide +kernel
theorem dX6_spoon_79 : decode cX6_spoon 79 = .ok (.aload_n 0, 1) := by decide +kernel
theorem dX6_spoon_80 : decode cX6_spoon 80 = .ok (.invokevirtual 197, 3) := by decide +kernel
theorem dX6_spoon_83 : decode cX6_spoon 83 = .ok (.iinc 4 1, 3) := by decide +kernel
theorem dX6_spoon_86 : decode cX6_spoon 86 = .ok (.goto (-53), 3) := by decide +kernel
theorem dX6_spoon_89 : decode cX6_spoon 89 = .ok (.iload_n 3, 1) := by decide +kernel
theorem dX6_spoon_90 : decode cX6_spoon 90 = .ok (.ireturn, 1) := by decide +kernel
theorem dX6_isAsked_0 : decode cX6_isAsked 0 = .ok (.iload_n 0, 1) := by decide +kernel
theorem dX6_isAsked_1 : decode cX6_isAsked 1 = .ok (.i2l, 1) := by decide +kernel
theorem dX6_isAsked_2 : decode cX6_isAsked 2 = .ok (.lconst 1, 1) := by decide +kernel
theorem dX6_isAsked_3 : decode cX6_isAsked 3 = .ok (.ldc2_w 200, 3) := by decide +kernel
theorem dX6_isAsked_6 : decode cX6_isAsked 6 = .ok (.invokestatic 65, 3) := by decide +kernel
theorem dX6_isAsked_9 : decode cX6_isAsked 9 = .ok (.ifCond .eq 17, 3) := by decide +kernel
theorem dX6_isAsked_12 : decode cX6_isAsked 12 = .ok (.iload_n 1, 1) := by decide +kernel
theorem dX6_isAsked_13 : decode cX6_isAsked 13 = .ok (.i2l, 1) := by decide +kernel
theorem dX6_isAsked_14 : decode cX6_isAsked 14 = .ok (.lconst 0, 1) := by decide +kernel
theorem dX6_isAsked_15 : decode cX6_isAsked 15 = .ok (.lconst 1, 1) := by decide +kernel
theorem dX6_isAsked_16 : decode cX6_isAsked 16 = .ok (.invokestatic 65, 3) := by decide +kernel
theorem dX6_isAsked_19 : decode cX6_isAsked 19 = .ok (.ifCond .eq 7, 3) := by decide +kernel
theorem dX6_isAsked_22 : decode cX6_isAsked 22 = .ok (.iconst 1, 1) := by decide +kernel
theorem dX6_isAsked_23 : decode cX6_isAsked 23 = .ok (.goto 4, 3) := by decide +kernel
theorem dX6_isAsked_26 : decode cX6_isAsked 26 = .ok (.iconst 0, 1) := by decide +kernel
theorem dX6_isAsked_27 : decode cX6_isAsked 27 = .ok (.ireturn, 1) := by decide +kernel
theorem dX6_mostBy_0 : decode cX6_mostBy 0 = .ok (.aload_n 0, 1) := by decide +kernel
theorem dX6_mostBy_1 : decode cX6_mostBy 1 = .ok (.invokevirtual 194, 3) := by decide +kernel
theorem dX6_mostBy_4 : decode cX6_mostBy 4 = .ok (.iconst (-1), 1) := by decide +kernel
theorem dX6_mostBy_5 : decode cX6_mostBy 5 = .ok (.istore 5, 2) := by decide +kernel
theorem dX6_mostBy_7 : decode cX6_mostBy 7 = .ok (.iconst (-1), 1) := by decide +kernel
theorem dX6_mostBy_8 : decode cX6_mostBy 8 = .ok (.istore 6, 2) := by decide +kernel
theorem dX6_mostBy_10 : decode cX6_mostBy 10 = .ok (.iconst 0, 1) := by decide +kernel
theorem dX6_mostBy_11 : decode cX6_mostBy 11 = .ok (.istore 7, 2) := by decide +kernel
theorem dX6_mostBy_13 : decode cX6_mostBy 13 = .ok (.iload 7, 2) := by decide +kernel
theorem dX6_mostBy_15 : decode cX6_mostBy 15 = .ok (.iload_n 2, 1) := by decide +kernel
theorem dX6_mostBy_16 : decode cX6_mostBy 16 = .ok (.if_icmp .gt 67, 3) := by decide +kernel
theorem dX6_mostBy_19 : decode cX6_mostBy 19 = .ok (.aload_n 0, 1) := by decide +kernel
theorem dX6_mostBy_20 : decode cX6_mostBy 20 = .ok (.getfield 7, 3) := by decide +kernel
theorem dX6_mostBy_23 : decode cX6_mostBy 23 = .ok (.iload_n 1, 1) := by decide +kernel
theorem dX6_mostBy_24 : decode cX6_mostBy 24 = .ok (.iload 7, 2) := by decide +kernel
theorem dX6_mostBy_26 : decode cX6_mostBy 26 = .ok (.iastore, 1) := by decide +kernel
theorem dX6_mostBy_27 : decode cX6_mostBy 27 = .ok (.aload_n 0, 1) := by decide +kernel
theorem dX6_mostBy_28 : decode cX6_mostBy 28 = .ok (.iload_n 3, 1) := by decide +kernel
theorem dX6_mostBy_29 : decode cX6_mostBy 29 = .ok (.invokevirtual 182, 3) := by decide +kernel
theorem dX6_mostBy_32 : decode cX6_mostBy 32 = .ok (.aload_n 0, 1) := by decide +kernel
theorem dX6_mostBy_33 : decode cX6_mostBy 33 = .ok (.getfield 7, 3) := by decide +kernel
theorem dX6_mostBy_36 : decode cX6_mostBy 36 = .ok (.bipush 6, 2) := by decide +kernel
theorem dX6_mostBy_38 : decode cX6_mostBy 38 = .ok (.iaload, 1) := by decide +kernel
theorem dX6_mostBy_39 : decode cX6_mostBy 39 = .ok (.istore 8, 2) := by decide +kernel
theorem dX6_mostBy_41 : decode cX6_mostBy 41 = .ok (.aload_n 0, 1) := by decide +kernel
theorem dX6_mostBy_42 : decode cX6_mostBy 42 = .ok (.invokevirtual 197, 3) := by decide +kernel
theorem dX6_mostBy_45 : decode cX6_mostBy 45 = .ok (.iload 8, 2) := by decide +kernel
theorem dX6_mostBy_47 : decode cX6_mostBy 47 = .ok (.iload 6, 2) := by decide +kernel
theorem dX6_mostBy_49 : decode cX6_mostBy 49 = .ok (.if_icmp .le 8, 3) := by decide +kernel
theorem dX6_mostBy_52 : decode cX6_mostBy 52 = .ok (.iload 7, 2) := by decide +kernel
theorem dX6_mostBy_54 : decode cX6_mostBy 54 = .ok (.goto 5, 3) := by decide +kernel
theorem dX6_mostBy_57 : decode cX6_mostBy 57 = .ok (.iload 5, 2) := by decide +kernel
theorem dX6_mostBy_59 : decode cX6_mostBy 59 = .ok (.istore 5, 2) := by decide +kernel
theorem dX6_mostBy_61 : decode cX6_mostBy 61 = .ok (.iload 8, 2) := by decide +kernel
theorem dX6_mostBy_63 : decode cX6_mostBy 63 = .ok (.iload 6, 2) := by decide +kernel
theorem dX6_mostBy_65 : decode cX6_mostBy 65 = .ok (.if_icmp .le 8, 3) := by decide +kernel
theorem dX6_mostBy_68 : decode cX6_mostBy 68 = .ok (.iload 8, 2) := by decide +kernel
theorem dX6_mostBy_70 : decode cX6_mostBy 70 = .ok (.goto 5, 3) := by decide +kernel
theorem dX6_mostBy_73 : decode cX6_mostBy 73 = .ok (.iload 6, 2) := by decide +kernel
theorem dX6_mostBy_75 : decode cX6_mostBy 75 = .ok (.istore 6, 2) := by decide +kernel
theorem dX6_mostBy_77 : decode cX6_mostBy 77 = .ok (.iinc 7 1, 3) := by decide +kernel
theorem dX6_mostBy_80 : decode cX6_mostBy 80 = .ok (.goto (-67), 3) := by decide +kernel
theorem dX6_mostBy_83 : decode cX6_mostBy 83 = .ok (.iload 4, 2) := by decide +kernel
theorem dX6_mostBy_85 : decode cX6_mostBy 85 = .ok (.ifCond .ne 8, 3) := by decide +kernel
theorem dX6_mostBy_88 : decode cX6_mostBy 88 = .ok (.iload 5, 2) := by decide +kernel
theorem dX6_mostBy_90 : decode cX6_mostBy 90 = .ok (.goto 5, 3) := by decide +kernel
theorem dX6_mostBy_93 : decode cX6_mostBy 93 = .ok (.iload 6, 2) := by decide +kernel
theorem dX6_mostBy_95 : decode cX6_mostBy 95 = .ok (.ireturn, 1) := by decide +kernel
theorem dX6_place_0 : decode cX6_place 0 = .ok (.aload_n 0, 1) := by decide +kernel
theorem dX6_place_1 : decode cX6_place 1 = .ok (.iload_n 1, 1) := by decide +kernel
theorem dX6_place_2 : decode cX6_place 2 = .ok (.invokevirtual 116, 3) := by decide +kernel
theorem dX6_place_5 : decode cX6_place 5 = .ok (.ifCond .eq 29, 3) := by decide +kernel
theorem dX6_place_8 : decode cX6_place 8 = .ok (.iload_n 2, 1) := by decide +kernel
theorem dX6_place_9 : decode cX6_place 9 = .ok (.iload_n 3, 1) := by decide +kernel
theorem dX6_place_10 : decode cX6_place 10 = .ok (.invokestatic 202, 3) := by decide +kernel
theorem dX6_place_13 : decode cX6_place 13 = .ok (.ifCond .eq 21, 3) := by decide +kernel
theorem dX6_place_16 : decode cX6_place 16 = .ok (.aload_n 0, 1) := by decide +kernel
theorem dX6_place_17 : decode cX6_place 17 = .ok (.bipush 21, 2) := by decide +kernel
theorem dX6_place_19 : decode cX6_place 19 = .ok (.iconst 5, 1) := by decide +kernel
theorem dX6_place_20 : decode cX6_place 20 = .ok (.iload_n 1, 1) := by decide +kernel
theorem dX6_place_21 : decode cX6_place 21 = .ok (.imul, 1) := by decide +kernel
theorem dX6_place_22 : decode cX6_place 22 = .ok (.iadd, 1) := by decide +kernel
theorem dX6_place_23 : decode cX6_place 23 = .ok (.iconst 3, 1) := by decide +kernel
theorem dX6_place_24 : decode cX6_place 24 = .ok (.iadd, 1) := by decide +kernel
theorem dX6_place_25 : decode cX6_place 25 = .ok (.iconst 5, 1) := by decide +kernel
theorem dX6_place_26 : decode cX6_place 26 = .ok (.iload_n 2, 1) := by decide +kernel
theorem dX6_place_27 : decode cX6_place 27 = .ok (.iload_n 3, 1) := by decide +kernel
theorem dX6_place_28 : decode cX6_place 28 = .ok (.invokevirtual 205, 3) := by decide +kernel
theorem dX6_place_31 : decode cX6_place 31 = .ok (.goto 5, 3) := by decide +kernel
theorem dX6_place_34 : decode cX6_place 34 = .ok (.ldc 110, 2) := by decide +kernel
theorem dX6_place_36 : decode cX6_place 36 = .ok (.ireturn, 1) := by decide +kernel
theorem dX6_becomes_0 : decode cX6_becomes 0 = .ok (.aload_n 0, 1) := by decide +kernel
theorem dX6_becomes_1 : decode cX6_becomes 1 = .ok (.iload_n 1, 1) := by decide +kernel
theorem dX6_becomes_2 : decode cX6_becomes 2 = .ok (.invokevirtual 116, 3) := by decide +kernel
theorem dX6_becomes_5 : decode cX6_becomes 5 = .ok (.ifCond .eq 27, 3) := by decide +kernel
theorem dX6_becomes_8 : decode cX6_becomes 8 = .ok (.iload_n 2, 1) := by decide +kernel
theorem dX6_becomes_9 : decode cX6_becomes 9 = .ok (.iload_n 3, 1) := by decide +kernel
theorem dX6_becomes_10 : decode cX6_becomes 10 = .ok (.invokestatic 202, 3) := by decide +kernel
theorem dX6_becomes_13 : decode cX6_becomes 13 = .ok (.ifCond .eq 19, 3) := by decide +kernel
theorem dX6_becomes_16 : decode cX6_becomes 16 = .ok (.aload_n 0, 1) := by decide +kernel
theorem dX6_becomes_17 : decode cX6_becomes 17 = .ok (.bipush 21, 2) := by decide +kernel
theorem dX6_becomes_19 : decode cX6_becomes 19 = .ok (.iconst 5, 1) := by decide +kernel
theorem dX6_becomes_20 : decode cX6_becomes 20 = .ok (.iload_n 1, 1) := by decide +kernel
theorem dX6_becomes_21 : decode cX6_becomes 21 = .ok (.imul, 1) := by decide +kernel
theorem dX6_becomes_22 : decode cX6_becomes 22 = .ok (.iadd, 1) := by decide +kernel
theorem dX6_becomes_23 : decode cX6_becomes 23 = .ok (.iconst 5, 1) := by decide +kernel
theorem dX6_becomes_24 : decode cX6_becomes 24 = .ok (.iload_n 2, 1) := by decide +kernel
theorem dX6_becomes_25 : decode cX6_becomes 25 = .ok (.iload_n 3, 1) := by decide +kernel
theorem dX6_becomes_26 : decode cX6_becomes 26 = .ok (.invokevirtual 205, 3) := by decide +kernel
theorem dX6_becomes_29 : decode cX6_becomes 29 = .ok (.goto 5, 3) := by decide +kernel
theorem dX6_becomes_32 : decode cX6_becomes 32 = .ok (.ldc 110, 2) := by decide +kernel
theorem dX6_becomes_34 : decode cX6_becomes 34 = .ok (.ireturn, 1) := by decide +kernel
theorem dX6_eyes_0 : decode cX6_eyes 0 = .ok (.iload_n 1, 1) := by decide +kernel
theorem dX6_eyes_1 : decode cX6_eyes 1 = .ok (.i2l, 1) := by decide +kernel
theorem dX6_eyes_2 : decode cX6_eyes 2 = .ok (.lconst 0, 1) := by decide +kernel
theorem dX6_eyes_3 : decode cX6_eyes 3 = .ok (.ldc2_w 200, 3) := by decide +kernel
theorem dX6_eyes_6 : decode cX6_eyes 6 = .ok (.invokestatic 65, 3) := by decide +kernel
theorem dX6_eyes_9 : decode cX6_eyes 9 = .ok (.ifCond .eq 15, 3) := by decide +kernel
theorem dX6_eyes_12 : decode cX6_eyes 12 = .ok (.iload_n 2, 1) := by decide +kernel
theorem dX6_eyes_13 : decode cX6_eyes 13 = .ok (.i2l, 1) := by decide +kernel
theorem dX6_eyes_14 : decode cX6_eyes 14 = .ok (.lconst 0, 1) := by decide +kernel
theorem dX6_eyes_15 : decode cX6_eyes 15 = .ok (.ldc2_w 209, 3) := by decide +kernel
theorem dX6_eyes_18 : decode cX6_eyes 18 = .ok (.invokestatic 65, 3) := by decide +kernel
theorem dX6_eyes_21 : decode cX6_eyes 21 = .ok (.ifCond .ne 6, 3) := by decide +kernel
theorem dX6_eyes_24 : decode cX6_eyes 24 = .ok (.ldc 110, 2) := by decide +kernel
theorem dX6_eyes_26 : decode cX6_eyes 26 = .ok (.ireturn, 1) := by decide +kernel
theorem dX6_eyes_27 : decode cX6_eyes 27 = .ok (.aload_n 0, 1) := by decide +kernel
theorem dX6_eyes_28 : decode cX6_eyes 28 = .ok (.invokevirtual 194, 3) := by decide +kernel
theorem dX6_eyes_31 : decode cX6_eyes 31 = .ok (.ldc 64, 2) := by decide +kernel
theorem dX6_eyes_33 : decode cX6_eyes 33 = .ok (.istore_n 3, 1) := by decide +kernel
theorem dX6_eyes_34 : decode cX6_eyes 34 = .ok (.bipush 99, 2) := by decide +kernel
theorem dX6_eyes_36 : decode cX6_eyes 36 = .ok (.istore 4, 2) := by decide +kernel
theorem dX6_eyes_38 : decode cX6_eyes 38 = .ok (.iload 4, 2) := by decide +kernel
theorem dX6_eyes_40 : decode cX6_eyes 40 = .ok (.ifCond .lt 49, 3) := by decide +kernel
theorem dX6_eyes_43 : decode cX6_eyes 43 = .ok (.iload_n 3, 1) := by decide +kernel
theorem dX6_eyes_44 : decode cX6_eyes 44 = .ok (.ifCond .ge 45, 3) := by decide +kernel
theorem dX6_eyes_47 : decode cX6_eyes 47 = .ok (.aload_n 0, 1) := by decide +kernel
theorem dX6_eyes_48 : decode cX6_eyes 48 = .ok (.getfield 7, 3) := by decide +kernel
theorem dX6_eyes_51 : decode cX6_eyes 51 = .ok (.iconst 4, 1) := by decide +kernel
theorem dX6_eyes_52 : decode cX6_eyes 52 = .ok (.iload 4, 2) := by decide +kernel
theorem dX6_eyes_54 : decode cX6_eyes 54 = .ok (.iastore, 1) := by decide +kernel
theorem dX6_eyes_55 : decode cX6_eyes 55 = .ok (.aload_n 0, 1) := by decide +kernel
theorem dX6_eyes_56 : decode cX6_eyes 56 = .ok (.iload_n 1, 1) := by decide +kernel
theorem dX6_eyes_57 : decode cX6_eyes 57 = .ok (.invokevirtual 182, 3) := by decide +kernel
theorem dX6_eyes_60 : decode cX6_eyes 60 = .ok (.aload_n 0, 1) := by decide +kernel
theorem dX6_eyes_61 : decode cX6_eyes 61 = .ok (.getfield 7, 3) := by decide +kernel
theorem dX6_eyes_64 : decode cX6_eyes 64 = .ok (.bipush 6, 2) := by decide +kernel
theorem dX6_eyes_66 : decode cX6_eyes 66 = .ok (.iaload, 1) := by decide +kernel
theorem dX6_eyes_67 : decode cX6_eyes 67 = .ok (.iload_n 2, 1) := by decide +kernel
theorem dX6_eyes_68 : decode cX6_eyes 68 = .ok (.if_icmp .lt 8, 3) := by decide +kernel
theorem dX6_eyes_71 : decode cX6_eyes 71 = .ok (.iload 4, 2) := by decide +kernel
theorem dX6_eyes_73 : decode cX6_eyes 73 = .ok (.goto 5, 3) := by decide +kernel
theorem dX6_eyes_76 : decode cX6_eyes 76 = .ok (.ldc 64, 2) := by decide +kernel
theorem dX6_eyes_78 : decode cX6_eyes 78 = .ok (.istore_n 3, 1) := by decide +kernel
theorem dX6_eyes_79 : decode cX6_eyes 79 = .ok (.aload_n 0, 1) := by decide +kernel
theorem dX6_eyes_80 : decode cX6_eyes 80 = .ok (.invokevirtual 197, 3) := by decide +kernel
theorem dX6_eyes_83 : decode cX6_eyes 83 = .ok (.iinc 4 (-1), 3) := by decide +kernel
theorem dX6_eyes_86 : decode cX6_eyes 86 = .ok (.goto (-48), 3) := by decide +kernel
theorem dX6_eyes_89 : decode cX6_eyes 89 = .ok (.iload_n 3, 1) := by decide +kernel
theorem dX6_eyes_90 : decode cX6_eyes 90 = .ok (.ireturn, 1) := by decide +kernel
theorem dX6_fee_0 : decode cX6_fee 0 = .ok (.aload_n 0, 1) := by decide +kernel
theorem dX6_fee_1 : decode cX6_fee 1 = .ok (.iconst 1, 1) := by decide +kernel
theorem dX6_fee_2 : decode cX6_fee 2 = .ok (.invokevirtual 76, 3) := by decide +kernel
theorem dX6_fee_5 : decode cX6_fee 5 = .ok (.istore_n 1, 1) := by decide +kernel
theorem dX6_fee_6 : decode cX6_fee 6 = .ok (.iload_n 1, 1) := by decide +kernel
theorem dX6_fee_7 : decode cX6_fee 7 = .ok (.ifCond .ge 11, 3) := by decide +kernel
theorem dX6_fee_10 : decode cX6_fee 10 = .ok (.aload_n 0, 1) := by decide +kernel
theorem dX6_fee_11 : decode cX6_fee 11 = .ok (.getfield 7, 3) := by decide +kernel
theorem dX6_fee_14 : decode cX6_fee 14 = .ok (.bipush 6, 2) := by decide +kernel
theorem dX6_fee_16 : decode cX6_fee 16 = .ok (.iaload, 1) := by decide +kernel
theorem dX6_fee_17 : decode cX6_fee 17 = .ok (.ireturn, 1) := by decide +kernel
theorem dX6_fee_18 : decode cX6_fee 18 = .ok (.aload_n 0, 1) := by decide +kernel
theorem dX6_fee_19 : decode cX6_fee 19 = .ok (.getfield 49, 3) := by decide +kernel
theorem dX6_fee_22 : decode cX6_fee 22 = .ok (.bipush 115, 2) := by decide +kernel
theorem dX6_fee_24 : decode cX6_fee 24 = .ok (.aload_n 0, 1) := by decide +kernel
theorem dX6_fee_25 : decode cX6_fee 25 = .ok (.getfield 7, 3) := by decide +kernel
theorem dX6_fee_28 : decode cX6_fee 28 = .ok (.bipush 6, 2) := by decide +kernel
theorem dX6_fee_30 : decode cX6_fee 30 = .ok (.iaload, 1) := by decide +kernel
theorem dX6_fee_31 : decode cX6_fee 31 = .ok (.iastore, 1) := by decide +kernel
theorem dX6_fee_32 : decode cX6_fee 32 = .ok (.aload_n 0, 1) := by decide +kernel
theorem dX6_fee_33 : decode cX6_fee 33 = .ok (.getfield 49, 3) := by decide +kernel
theorem dX6_fee_36 : decode cX6_fee 36 = .ok (.bipush 103, 2) := by decide +kernel
theorem dX6_fee_38 : decode cX6_fee 38 = .ok (.aload_n 0, 1) := by decide +kernel
theorem dX6_fee_39 : decode cX6_fee 39 = .ok (.getfield 7, 3) := by decide +kernel
theorem dX6_fee_42 : decode cX6_fee 42 = .ok (.bipush 7, 2) := by decide +kernel
theorem dX6_fee_44 : decode cX6_fee 44 = .ok (.iaload, 1) := by decide +kernel
theorem dX6_fee_45 : decode cX6_fee 45 = .ok (.iastore, 1) := by decide +kernel
theorem dX6_fee_46 : decode cX6_fee 46 = .ok (.aload_n 0, 1) := by decide +kernel
theorem dX6_fee_47 : decode cX6_fee 47 = .ok (.iload_n 1, 1) := by decide +kernel
theorem dX6_fee_48 : decode cX6_fee 48 = .ok (.invokevirtual 89, 3) := by decide +kernel
theorem dX6_fee_51 : decode cX6_fee 51 = .ok (.ireturn, 1) := by decide +kernel
theorem dX6_fine_0 : decode cX6_fine 0 = .ok (.aload_n 0, 1) := by decide +kernel
theorem dX6_fine_1 : decode cX6_fine 1 = .ok (.iload_n 1, 1) := by decide +kernel
theorem dX6_fine_2 : decode cX6_fine 2 = .ok (.invokevirtual 116, 3) := by decide +kernel
theorem dX6_fine_5 : decode cX6_fine 5 = .ok (.ifCond .ne 6, 3) := by decide +kernel
theorem dX6_fine_8 : decode cX6_fine 8 = .ok (.ldc 110, 2) := by decide +kernel
theorem dX6_fine_10 : decode cX6_fine 10 = .ok (.ireturn, 1) := by decide +kernel
theorem dX6_fine_11 : decode cX6_fine 11 = .ok (.aload_n 0, 1) := by decide +kernel
theorem dX6_fine_12 : decode cX6_fine 12 = .ok (.iconst 2, 1) := by decide +kernel
theorem dX6_fine_13 : decode cX6_fine 13 = .ok (.invokevirtual 76, 3) := by decide +kernel
theorem dX6_fine_16 : decode cX6_fine 16 = .ok (.istore_n 2, 1) := by decide +kernel
theorem dX6_fine_17 : decode cX6_fine 17 = .ok (.iload_n 2, 1) := by decide +kernel
theorem dX6_fine_18 : decode cX6_fine 18 = .ok (.ifCond .ge 10, 3) := by decide +kernel
theorem dX6_fine_21 : decode cX6_fine 21 = .ok (.aload_n 0, 1) := by decide +kernel
theorem dX6_fine_22 : decode cX6_fine 22 = .ok (.iload_n 1, 1) := by decide +kernel
theorem dX6_fine_23 : decode cX6_fine 23 = .ok (.iconst 1, 1) := by decide +kernel
theorem dX6_fine_24 : decode cX6_fine 24 = .ok (.invokevirtual 72, 3) := by decide +kernel
theorem dX6_fine_27 : decode cX6_fine 27 = .ok (.ireturn, 1) := by decide +kernel
theorem dX6_fine_28 : decode cX6_fine 28 = .ok (.aload_n 0, 1) := by decide +kernel
theorem dX6_fine_29 : decode cX6_fine 29 = .ok (.getfield 49, 3) := by decide +kernel
theorem dX6_fine_32 : decode cX6_fine 32 = .ok (.bipush 105, 2) := by decide +kernel
theorem dX6_fine_34 : decode cX6_fine 34 = .ok (.aload_n 0, 1) := by decide +kernel
theorem dX6_fine_35 : decode cX6_fine 35 = .ok (.iload_n 1, 1) := by decide +kernel
theorem dX6_fine_36 : decode cX6_fine 36 = .ok (.iconst 1, 1) := by decide +kernel
theorem dX6_fine_37 : decode cX6_fine 37 = .ok (.invokevirtual 72, 3) := by decide +kernel
theorem dX6_fine_40 : decode cX6_fine 40 = .ok (.iastore, 1) := by decide +kernel
theorem dX6_fine_41 : decode cX6_fine 41 = .ok (.aload_n 0, 1) := by decide +kernel
theorem dX6_fine_42 : decode cX6_fine 42 = .ok (.getfield 49, 3) := by decide +kernel
theorem dX6_fine_45 : decode cX6_fine 45 = .ok (.bipush 100, 2) := by decide +kernel
theorem dX6_fine_47 : decode cX6_fine 47 = .ok (.aload_n 0, 1) := by decide +kernel
theorem dX6_fine_48 : decode cX6_fine 48 = .ok (.iload_n 1, 1) := by decide +kernel
theorem dX6_fine_49 : decode cX6_fine 49 = .ok (.iconst 2, 1) := by decide +kernel
theorem dX6_fine_50 : decode cX6_fine 50 = .ok (.invokevirtual 72, 3) := by decide +kernel
theorem dX6_fine_53 : decode cX6_fine 53 = .ok (.iastore, 1) := by decide +kernel
theorem dX6_fine_54 : decode cX6_fine 54 = .ok (.aload_n 0, 1) := by decide +kernel
theorem dX6_fine_55 : decode cX6_fine 55 = .ok (.iload_n 2, 1) := by decide +kernel
theorem dX6_fine_56 : decode cX6_fine 56 = .ok (.invokevirtual 89, 3) := by decide +kernel
theorem dX6_fine_59 : decode cX6_fine 59 = .ok (.ireturn, 1) := by decide +kernel
theorem dX6_feed_0 : decode cX6_feed 0 = .ok (.aload_n 0, 1) := by decide +kernel
theorem dX6_feed_1 : decode cX6_feed 1 = .ok (.getfield 211, 3) := by decide +kernel
theorem dX6_feed_4 : decode cX6_feed 4 = .ok (.bipush 12, 2) := by decide +kernel
theorem dX6_feed_6 : decode cX6_feed 6 = .ok (.iadd, 1) := by decide +kernel
theorem dX6_feed_7 : decode cX6_feed 7 = .ok (.bipush 96, 2) := by decide +kernel
theorem dX6_feed_9 : decode cX6_feed 9 = .ok (.if_icmp .le 6, 3) := by decide +kernel
theorem dX6_feed_12 : decode cX6_feed 12 = .ok (.ldc 111, 2) := by decide +kernel
theorem dX6_feed_14 : decode cX6_feed 14 = .ok (.ireturn, 1) := by decide +kernel
theorem dX6_feed_15 : decode cX6_feed 15 = .ok (.iconst 0, 1) := by decide +kernel
theorem dX6_feed_16 : decode cX6_feed 16 = .ok (.istore 4, 2) := by decide +kernel
theorem dX6_feed_18 : decode cX6_feed 18 = .ok (.iload 4, 2) := by decide +kernel
theorem dX6_feed_20 : decode cX6_feed 20 = .ok (.bipush 12, 2) := by decide +kernel
theorem dX6_feed_22 : decode cX6_feed 22 = .ok (.if_icmp .ge 69, 3) := by decide +kernel
theorem dX6_feed_25 : decode cX6_feed 25 = .ok (.iload 4, 2) := by decide +kernel
theorem dX6_feed_27 : decode cX6_feed 27 = .ok (.iconst 4, 1) := by decide +kernel
theorem dX6_feed_28 : decode cX6_feed 28 = .ok (.if_icmp .ge 7, 3) := by decide +kernel
theorem dX6_feed_31 : decode cX6_feed 31 = .ok (.iload_n 1, 1) := by decide +kernel
theorem dX6_feed_32 : decode cX6_feed 32 = .ok (.goto 15, 3) := by decide +kernel
theorem dX6_feed_35 : decode cX6_feed 35 = .ok (.iload 4, 2) := by decide +kernel
theorem dX6_feed_37 : decode cX6_feed 37 = .ok (.bipush 8, 2) := by decide +kernel
theorem dX6_feed_39 : decode cX6_feed 39 = .ok (.if_icmp .ge 7, 3) := by decide +kernel
theorem dX6_feed_42 : decode cX6_feed 42 = .ok (.iload_n 2, 1) := by decide +kernel
theorem dX6_feed_43 : decode cX6_feed 43 = .ok (.goto 4, 3) := by decide +kernel
theorem dX6_feed_46 : decode cX6_feed 46 = .ok (.iload_n 3, 1) := by decide +kernel
theorem dX6_feed_47 : decode cX6_feed 47 = .ok (.istore 5, 2) := by decide +kernel
theorem dX6_feed_49 : decode cX6_feed 49 = .ok (.aload_n 0, 1) := by decide +kernel
theorem dX6_feed_50 : decode cX6_feed 50 = .ok (.getfield 46, 3) := by decide +kernel
theorem dX6_feed_53 : decode cX6_feed 53 = .ok (.aload_n 0, 1) := by decide +kernel
theorem dX6_feed_54 : decode cX6_feed 54 = .ok (.getfield 211, 3) := by decide +kernel
theorem dX6_feed_57 : decode cX6_feed 57 = .ok (.iload 5, 2) := by decide +kernel
theorem dX6_feed_59 : decode cX6_feed 59 = .ok (.bipush 24, 2) := by decide +kernel
theorem dX6_feed_61 : decode cX6_feed 61 = .ok (.bipush 8, 2) := by decide +kernel
theorem dX6_feed_63 : decode cX6_feed 63 = .ok (.iload 4, 2) := by decide +kernel
theorem dX6_feed_65 : decode cX6_feed 65 = .ok (.iconst 4, 1) := by decide +kernel
theorem dX6_feed_66 : decode cX6_feed 66 = .ok (.irem, 1) := by decide +kernel
theorem dX6_feed_67 : decode cX6_feed 67 = .ok (.imul, 1) := by decide +kernel
theorem dX6_feed_68 : decode cX6_feed 68 = .ok (.isub, 1) := by decide +kernel
theorem dX6_feed_69 : decode cX6_feed 69 = .ok (.ishr, 1) := by decide +kernel
theorem dX6_feed_70 : decode cX6_feed 70 = .ok (.sipush 255, 3) := by decide +kernel
theorem dX6_feed_73 : decode cX6_feed 73 = .ok (.iand, 1) := by decide +kernel
theorem dX6_feed_74 : decode cX6_feed 74 = .ok (.iastore, 1) := by decide +kernel
theorem dX6_feed_75 : decode cX6_feed 75 = .ok (.aload_n 0, 1) := by decide +kernel
theorem dX6_feed_76 : decode cX6_feed 76 = .ok (.dup, 1) := by decide +kernel
theorem dX6_feed_77 : decode cX6_feed 77 = .ok (.getfield 211, 3) := by decide +kernel
theorem dX6_feed_80 : decode cX6_feed 80 = .ok (.iconst 1, 1) := by decide +kernel
theorem dX6_feed_81 : decode cX6_feed 81 = .ok (.iadd, 1) := by decide +kernel
theorem dX6_feed_82 : decode cX6_feed 82 = .ok (.putfield 211, 3) := by decide +kernel
theorem dX6_feed_85 : decode cX6_feed 85 = .ok (.iinc 4 1, 3) := by decide +kernel
theorem dX6_feed_88 : decode cX6_feed 88 = .ok (.goto (-70), 3) := by decide +kernel
theorem dX6_feed_91 : decode cX6_feed 91 = .ok (.aload_n 0, 1) := by decide +kernel
theorem dX6_feed_92 : decode cX6_feed 92 = .ok (.getfield 211, 3) := by decide +kernel
theorem dX6_feed_95 : decode cX6_feed 95 = .ok (.ireturn, 1) := by decide +kernel
theorem dX6_trim_0 : decode cX6_trim 0 = .ok (.iload_n 1, 1) := by decide +kernel
theorem dX6_trim_1 : decode cX6_trim 1 = .ok (.i2l, 1) := by decide +kernel
theorem dX6_trim_2 : decode cX6_trim 2 = .ok (.lconst 0, 1) := by decide +kernel
theorem dX6_trim_3 : decode cX6_trim 3 = .ok (.aload_n 0, 1) := by decide +kernel
theorem dX6_trim_4 : decode cX6_trim 4 = .ok (.getfield 211, 3) := by decide +kernel
theorem dX6_trim_7 : decode cX6_trim 7 = .ok (.i2l, 1) := by decide +kernel
theorem dX6_trim_8 : decode cX6_trim 8 = .ok (.invokestatic 65, 3) := by decide +kernel
theorem dX6_trim_11 : decode cX6_trim 11 = .ok (.ifCond .ne 6, 3) := by decide +kernel
theorem dX6_trim_14 : decode cX6_trim 14 = .ok (.ldc 110, 2) := by decide +kernel
theorem dX6_trim_16 : decode cX6_trim 16 = .ok (.ireturn, 1) := by decide +kernel
theorem dX6_trim_17 : decode cX6_trim 17 = .ok (.aload_n 0, 1) := by decide +kernel
theorem dX6_trim_18 : decode cX6_trim 18 = .ok (.iload_n 1, 1) := by decide +kernel
theorem dX6_trim_19 : decode cX6_trim 19 = .ok (.putfield 211, 3) := by decide +kernel
theorem dX6_trim_22 : decode cX6_trim 22 = .ok (.iload_n 1, 1) := by decide +kernel
theorem dX6_trim_23 : decode cX6_trim 23 = .ok (.ireturn, 1) := by decide +kernel
theorem dX6_isLetter_0 : decode cX6_isLetter 0 = .ok (.iload_n 1, 1) := by decide +kernel
theorem dX6_isLetter_1 : decode cX6_isLetter 1 = .ok (.aload_n 0, 1) := by decide +kernel
theorem dX6_isLetter_2 : decode cX6_isLetter 2 = .ok (.getfield 211, 3) := by decide +kernel
theorem dX6_isLetter_5 : decode cX6_isLetter 5 = .ok (.if_icmp .ge 26, 3) := by decide +kernel
theorem dX6_isLetter_8 : decode cX6_isLetter 8 = .ok (.aload_n 0, 1) := by decide +kernel
theorem dX6_isLetter_9 : decode cX6_isLetter 9 = .ok (.getfield 46, 3) := by decide +kernel
theorem dX6_isLetter_12 : decode cX6_isLetter 12 = .ok (.iload_n 1, 1) := by decide +kernel
theorem dX6_isLetter_13 : decode cX6_isLetter 13 = .ok (.iaload, 1) := by decide +kernel
theorem dX6_isLetter_14 : decode cX6_isLetter 14 = .ok (.i2l, 1) := by decide +kernel
theorem dX6_isLetter_15 : decode cX6_isLetter 15 = .ok (.ldc2_w 215, 3) := by decide +kernel
theorem dX6_isLetter_18 : decode cX6_isLetter 18 = .ok (.ldc2_w 217, 3) := by decide +kernel
theorem dX6_isLetter_21 : decode cX6_isLetter 21 = .ok (.invokestatic 65, 3) := by decide +kernel
theorem dX6_isLetter_24 : decode cX6_isLetter 24 = .ok (.ifCond .eq 7, 3) := by decide +kernel
theorem dX6_isLetter_27 : decode cX6_isLetter 27 = .ok (.iconst 1, 1) := by decide +kernel
theorem dX6_isLetter_28 : decode cX6_isLetter 28 = .ok (.goto 4, 3) := by decide +kernel
theorem dX6_isLetter_31 : decode cX6_isLetter 31 = .ok (.iconst 0, 1) := by decide +kernel
theorem dX6_isLetter_32 : decode cX6_isLetter 32 = .ok (.ireturn, 1) := by decide +kernel
theorem dX6_isDigit_0 : decode cX6_isDigit 0 = .ok (.iload_n 1, 1) := by decide +kernel
theorem dX6_isDigit_1 : decode cX6_isDigit 1 = .ok (.aload_n 0, 1) := by decide +kernel
theorem dX6_isDigit_2 : decode cX6_isDigit 2 = .ok (.getfield 211, 3) := by decide +kernel
theorem dX6_isDigit_5 : decode cX6_isDigit 5 = .ok (.if_icmp .ge 26, 3) := by decide +kernel
theorem dX6_isDigit_8 : decode cX6_isDigit 8 = .ok (.aload_n 0, 1) := by decide +kernel
theorem dX6_isDigit_9 : decode cX6_isDigit 9 = .ok (.getfield 46, 3) := by decide +kernel
theorem dX6_isDigit_12 : decode cX6_isDigit 12 = .ok (.iload_n 1, 1) := by decide +kernel
theorem dX6_isDigit_13 : decode cX6_isDigit 13 = .ok (.iaload, 1) := by decide +kernel
theorem dX6_isDigit_14 : decode cX6_isDigit 14 = .ok (.i2l, 1) := by decide +kernel
theorem dX6_isDigit_15 : decode cX6_isDigit 15 = .ok (.ldc2_w 219, 3) := by decide +kernel
theorem dX6_isDigit_18 : decode cX6_isDigit 18 = .ok (.ldc2_w 221, 3) := by decide +kernel
theorem dX6_isDigit_21 : decode cX6_isDigit 21 = .ok (.invokestatic 65, 3) := by decide +kernel
theorem dX6_isDigit_24 : decode cX6_isDigit 24 = .ok (.ifCond .eq 7, 3) := by decide +kernel
theorem dX6_isDigit_27 : decode cX6_isDigit 27 = .ok (.iconst 1, 1) := by decide +kernel
theorem dX6_isDigit_28 : decode cX6_isDigit 28 = .ok (.goto 4, 3) := by decide +kernel
theorem dX6_isDigit_31 : decode cX6_isDigit 31 = .ok (.iconst 0, 1) := by decide +kernel
theorem dX6_isDigit_32 : decode cX6_isDigit 32 = .ok (.ireturn, 1) := by decide +kernel
theorem dX6_nextToken_0 : decode cX6_nextToken 0 = .ok (.aload_n 0, 1) := by decide +kernel
theorem dX6_nextToken_1 : decode cX6_nextToken 1 = .ok (.getfield 223, 3) := by decide +kernel
theorem dX6_nextToken_4 : decode cX6_nextToken 4 = .ok (.ifCond .le 23, 3) := by decide +kernel
theorem dX6_nextToken_7 : decode cX6_nextToken 7 = .ok (.aload_n 0, 1) := by decide +kernel
theorem dX6_nextToken_8 : decode cX6_nextToken 8 = .ok (.getfield 226, 3) := by decide +kernel
theorem dX6_nextToken_11 : decode cX6_nextToken 11 = .ok (.iconst 1, 1) := by decide +kernel
theorem dX6_nextToken_12 : decode cX6_nextToken 12 = .ok (.if_icmp .eq 11, 3) := by decide +kernel
theorem dX6_nextToken_15 : decode cX6_nextToken 15 = .ok (.aload_n 0, 1) := by decide +kernel
theorem dX6_nextToken_16 : decode cX6_nextToken 16 = .ok (.getfield 226, 3) := by decide +kernel
theorem dX6_nextToken_19 : decode cX6_nextToken 19 = .ok (.iconst 2, 1) := by decide +kernel
theorem dX6_nextToken_20 : decode cX6_nextToken 20 = .ok (.if_icmp .ne 7, 3) := by decide +kernel
theorem dX6_nextToken_23 : decode cX6_nextToken 23 = .ok (.iconst 1, 1) := by decide +kernel
theorem dX6_nextToken_24 : decode cX6_nextToken 24 = .ok (.goto 4, 3) := by decide +kernel
theorem dX6_nextToken_27 : decode cX6_nextToken 27 = .ok (.iconst 0, 1) := by decide +kernel
theorem dX6_nextToken_28 : decode cX6_nextToken 28 = .ok (.istore_n 1, 1) := by decide +kernel
theorem dX6_nextToken_29 : decode cX6_nextToken 29 = .ok (.aload_n 0, 1) := by decide +kernel
theorem dX6_nextToken_30 : decode cX6_nextToken 30 = .ok (.getfield 223, 3) := by decide +kernel
theorem dX6_nextToken_33 : decode cX6_nextToken 33 = .ok (.istore_n 2, 1) := by decide +kernel
theorem dX6_nextToken_34 : decode cX6_nextToken 34 = .ok (.aload_n 0, 1) := by decide +kernel
theorem dX6_nextToken_35 : decode cX6_nextToken 35 = .ok (.getfield 223, 3) := by decide +kernel
theorem dX6_nextToken_38 : decode cX6_nextToken 38 = .ok (.aload_n 0, 1) := by decide +kernel
theorem dX6_nextToken_39 : decode cX6_nextToken 39 = .ok (.getfield 211, 3) := by decide +kernel
theorem dX6_nextToken_42 : decode cX6_nextToken 42 = .ok (.if_icmp .ge 30, 3) := by decide +kernel
theorem dX6_nextToken_45 : decode cX6_nextToken 45 = .ok (.aload_n 0, 1) := by decide +kernel
theorem dX6_nextToken_46 : decode cX6_nextToken 46 = .ok (.getfield 46, 3) := by decide +kernel
theorem dX6_nextToken_49 : decode cX6_nextToken 49 = .ok (.aload_n 0, 1) := by decide +kernel
theorem dX6_nextToken_50 : decode cX6_nextToken 50 = .ok (.getfield 223, 3) := by decide +kernel
theorem dX6_nextToken_53 : decode cX6_nextToken 53 = .ok (.iaload, 1) := by decide +kernel
theorem dX6_nextToken_54 : decode cX6_nextToken 54 = .ok (.bipush 32, 2) := by decide +kernel
theorem dX6_nextToken_56 : decode cX6_nextToken 56 = .ok (.if_icmp .ne 16, 3) := by decide +kernel
theorem dX6_nextToken_59 : decode cX6_nextToken 59 = .ok (.aload_n 0, 1) := by decide +kernel
theorem dX6_nextToken_60 : decode cX6_nextToken 60 = .ok (.dup, 1) := by decide +kernel
theorem dX6_nextToken_61 : decode cX6_nextToken 61 = .ok (.getfield 223, 3) := by decide +kernel
theorem dX6_nextToken_64 : decode cX6_nextToken 64 = .ok (.iconst 1, 1) := by decide +kernel
theorem dX6_nextToken_65 : decode cX6_nextToken 65 = .ok (.iadd, 1) := by decide +kernel
theorem dX6_nextToken_66 : decode cX6_nextToken 66 = .ok (.putfield 223, 3) := by decide +kernel
theorem dX6_nextToken_69 : decode cX6_nextToken 69 = .ok (.goto (-35), 3) := by decide +kernel
theorem dX6_nextToken_72 : decode cX6_nextToken 72 = .ok (.iload_n 1, 1) := by decide +kernel
theorem dX6_nextToken_73 : decode cX6_nextToken 73 = .ok (.ifCond .eq 15, 3) := by decide +kernel
theorem dX6_nextToken_76 : decode cX6_nextToken 76 = .ok (.iload_n 2, 1) := by decide +kernel
theorem dX6_nextToken_77 : decode cX6_nextToken 77 = .ok (.aload_n 0, 1) := by decide +kernel
theorem dX6_nextToken_78 : decode cX6_nextToken 78 = .ok (.getfield 223, 3) := by decide +kernel
theorem dX6_nextToken_81 : decode cX6_nextToken 81 = .ok (.if_icmp .ne 7, 3) := by decide +kernel
theorem dX6_nextToken_84 : decode cX6_nextToken 84 = .ok (.iconst 1, 1) := by decide +kernel
theorem dX6_nextToken_85 : decode cX6_nextToken 85 = .ok (.goto 4, 3) := by decide +kernel
theorem dX6_nextToken_88 : decode cX6_nextToken 88 = .ok (.iconst 0, 1) := by decide +kernel
theorem dX6_nextToken_89 : decode cX6_nextToken 89 = .ok (.istore_n 1, 1) := by decide +kernel
theorem dX6_nextToken_90 : decode cX6_nextToken 90 = .ok (.aload_n 0, 1) := by decide +kernel
theorem dX6_nextToken_91 : decode cX6_nextToken 91 = .ok (.aload_n 0, 1) := by decide +kernel
theorem dX6_nextToken_92 : decode cX6_nextToken 92 = .ok (.getfield 223, 3) := by decide +kernel
theorem dX6_nextToken_95 : decode cX6_nextToken 95 = .ok (.putfield 229, 3) := by decide +kernel
theorem dX6_nextToken_98 : decode cX6_nextToken 98 = .ok (.aload_n 0, 1) := by decide +kernel
theorem dX6_nextToken_99 : decode cX6_nextToken 99 = .ok (.getfield 229, 3) := by decide +kernel
theorem dX6_nextToken_102 : decode cX6_nextToken 102 = .ok (.aload_n 0, 1) := by decide +kernel
theorem dX6_nextToken_103 : decode cX6_nextToken 103 = .ok (.getfield 211, 3) := by decide +kernel
theorem dX6_nextToken_106 : decode cX6_nextToken 106 = .ok (.if_icmp .ne 11, 3) := by decide +kernel
theorem dX6_nextToken_109 : decode cX6_nextToken 109 = .ok (.aload_n 0, 1) := by decide +kernel
theorem dX6_nextToken_110 : decode cX6_nextToken 110 = .ok (.iconst 0, 1) := by decide +kernel
theorem dX6_nextToken_111 : decode cX6_nextToken 111 = .ok (.putfield 226, 3) := by decide +kernel
theorem dX6_nextToken_114 : decode cX6_nextToken 114 = .ok (.goto 225, 3) := by decide +kernel
theorem dX6_nextToken_117 : decode cX6_nextToken 117 = .ok (.aload_n 0, 1) := by decide +kernel
theorem dX6_nextToken_118 : decode cX6_nextToken 118 = .ok (.aload_n 0, 1) := by decide +kernel
theorem dX6_nextToken_119 : decode cX6_nextToken 119 = .ok (.getfield 229, 3) := by decide +kernel
theorem dX6_nextToken_122 : decode cX6_nextToken 122 = .ok (.invokevirtual 232, 3) := by decide +kernel
theorem dX6_nextToken_125 : decode cX6_nextToken 125 = .ok (.ifCond .eq 73, 3) := by decide +kernel
theorem dX6_nextToken_128 : decode cX6_nextToken 128 = .ok (.aload_n 0, 1) := by decide +kernel
theorem dX6_nextToken_129 : decode cX6_nextToken 129 = .ok (.aload_n 0, 1) := by decide +kernel
theorem dX6_nextToken_130 : decode cX6_nextToken 130 = .ok (.getfield 223, 3) := by decide +kernel
theorem dX6_nextToken_133 : decode cX6_nextToken 133 = .ok (.invokevirtual 232, 3) := by decide +kernel
theorem dX6_nextToken_136 : decode cX6_nextToken 136 = .ok (.ifCond .eq 16, 3) := by decide +kernel
theorem dX6_nextToken_139 : decode cX6_nextToken 139 = .ok (.aload_n 0, 1) := by decide +kernel
theorem dX6_nextToken_140 : decode cX6_nextToken 140 = .ok (.dup, 1) := by decide +kernel
theorem dX6_nextToken_141 : decode cX6_nextToken 141 = .ok (.getfield 223, 3) := by decide +kernel
theorem dX6_nextToken_144 : decode cX6_nextToken 144 = .ok (.iconst 1, 1) := by decide +kernel
theorem dX6_nextToken_145 : decode cX6_nextToken 145 = .ok (.iadd, 1) := by decide +kernel
theorem dX6_nextToken_146 : decode cX6_nextToken 146 = .ok (.putfield 223, 3) := by decide +kernel
theorem dX6_nextToken_149 : decode cX6_nextToken 149 = .ok (.goto (-21), 3) := by decide +kernel
theorem dX6_nextToken_152 : decode cX6_nextToken 152 = .ok (.aload_n 0, 1) := by decide +kernel
theorem dX6_nextToken_153 : decode cX6_nextToken 153 = .ok (.iload_n 1, 1) := by decide +kernel
theorem dX6_nextToken_154 : decode cX6_nextToken 154 = .ok (.ifCond .eq 7, 3) := by decide +kernel
theorem dX6_nextToken_157 : decode cX6_nextToken 157 = .ok (.iconst 4, 1) := by decide +kernel
theorem dX6_nextToken_158 : decode cX6_nextToken 158 = .ok (.goto 4, 3) := by decide +kernel
theorem dX6_nextToken_161 : decode cX6_nextToken 161 = .ok (.iconst 1, 1) := by decide +kernel
theorem dX6_nextToken_162 : decode cX6_nextToken 162 = .ok (.putfield 226, 3) := by decide +kernel
theorem dX6_nextToken_165 : decode cX6_nextToken 165 = .ok (.aload_n 0, 1) := by decide +kernel
theorem dX6_nextToken_166 : decode cX6_nextToken 166 = .ok (.aload_n 0, 1) := by decide +kernel
theorem dX6_nextToken_167 : decode cX6_nextToken 167 = .ok (.getfield 223, 3) := by decide +kernel
theorem dX6_nextToken_170 : decode cX6_nextToken 170 = .ok (.aload_n 0, 1) := by decide +kernel
theorem dX6_nextToken_171 : decode cX6_nextToken 171 = .ok (.getfield 229, 3) := by decide +kernel
theorem dX6_nextToken_174 : decode cX6_nextToken 174 = .ok (.isub, 1) := by decide +kernel
theorem dX6_nextToken_175 : decode cX6_nextToken 175 = .ok (.iconst 1, 1) := by decide +kernel
theorem dX6_nextToken_176 : decode cX6_nextToken 176 = .ok (.if_icmp .ne 15, 3) := by decide +kernel
theorem dX6_nextToken_179 : decode cX6_nextToken 179 = .ok (.aload_n 0, 1) := by decide +kernel
theorem dX6_nextToken_180 : decode cX6_nextToken 180 = .ok (.getfield 46, 3) := by decide +kernel
theorem dX6_nextToken_183 : decode cX6_nextToken 183 = .ok (.aload_n 0, 1) := by decide +kernel
theorem dX6_nextToken_184 : decode cX6_nextToken 184 = .ok (.getfield 229, 3) := by decide +kernel
theorem dX6_nextToken_187 : decode cX6_nextToken 187 = .ok (.iaload, 1) := by decide +kernel
theorem dX6_nextToken_188 : decode cX6_nextToken 188 = .ok (.goto 4, 3) := by decide +kernel
theorem dX6_nextToken_191 : decode cX6_nextToken 191 = .ok (.iconst 0, 1) := by decide +kernel
theorem dX6_nextToken_192 : decode cX6_nextToken 192 = .ok (.putfield 235, 3) := by decide +kernel
theorem dX6_nextToken_195 : decode cX6_nextToken 195 = .ok (.goto 144, 3) := by decide +kernel
theorem dX6_nextToken_198 : decode cX6_nextToken 198 = .ok (.aload_n 0, 1) := by decide +kernel
theorem dX6_nextToken_199 : decode cX6_nextToken 199 = .ok (.aload_n 0, 1) := by decide +kernel
theorem dX6_nextToken_200 : decode cX6_nextToken 200 = .ok (.getfield 229, 3) := by decide +kernel
theorem dX6_nextToken_203 : decode cX6_nextToken 203 = .ok (.invokevirtual 238, 3) := by decide +kernel
theorem dX6_nextToken_206 : decode cX6_nextToken 206 = .ok (.ifCond .eq 105, 3) := by decide +kernel
theorem dX6_nextToken_209 : decode cX6_nextToken 209 = .ok (.aload_n 0, 1) := by decide +kernel
theorem dX6_nextToken_210 : decode cX6_nextToken 210 = .ok (.iconst 0, 1) := by decide +kernel
theorem dX6_nextToken_211 : decode cX6_nextToken 211 = .ok (.putfield 241, 3) := by decide +kernel
theorem dX6_nextToken_214 : decode cX6_nextToken 214 = .ok (.aload_n 0, 1) := by decide +kernel
theorem dX6_nextToken_215 : decode cX6_nextToken 215 = .ok (.aload_n 0, 1) := by decide +kernel
theorem dX6_nextToken_216 : decode cX6_nextToken 216 = .ok (.getfield 223, 3) := by decide +kernel
theorem dX6_nextToken_219 : decode cX6_nextToken 219 = .ok (.invokevirtual 238, 3) := by decide +kernel
theorem dX6_nextToken_222 : decode cX6_nextToken 222 = .ok (.ifCond .eq 60, 3) := by decide +kernel
theorem dX6_nextToken_225 : decode cX6_nextToken 225 = .ok (.aload_n 0, 1) := by decide +kernel
theorem dX6_nextToken_226 : decode cX6_nextToken 226 = .ok (.aload_n 0, 1) := by decide +kernel
theorem dX6_nextToken_227 : decode cX6_nextToken 227 = .ok (.getfield 223, 3) := by decide +kernel
theorem dX6_nextToken_230 : decode cX6_nextToken 230 = .ok (.aload_n 0, 1) := by decide +kernel
theorem dX6_nextToken_231 : decode cX6_nextToken 231 = .ok (.getfield 229, 3) := by decide +kernel
theorem dX6_nextToken_234 : decode cX6_nextToken 234 = .ok (.isub, 1) := by decide +kernel
theorem dX6_nextToken_235 : decode cX6_nextToken 235 = .ok (.iconst 4, 1) := by decide +kernel
theorem dX6_nextToken_236 : decode cX6_nextToken 236 = .ok (.if_icmp .ge 26, 3) := by decide +kernel
theorem dX6_nextToken_239 : decode cX6_nextToken 239 = .ok (.bipush 10, 2) := by decide +kernel
theorem dX6_nextToken_241 : decode cX6_nextToken 241 = .ok (.aload_n 0, 1) := by decide +kernel
theorem dX6_nextToken_242 : decode cX6_nextToken 242 = .ok (.getfield 241, 3) := by decide +kernel
theorem dX6_nextToken_245 : decode cX6_nextToken 245 = .ok (.imul, 1) := by decide +kernel
theorem dX6_nextToken_246 : decode cX6_nextToken 246 = .ok (.aload_n 0, 1) := by decide +kernel
theorem dX6_nextToken_247 : decode cX6_nextToken 247 = .ok (.getfield 46, 3) := by decide +kernel
theorem dX6_nextToken_250 : decode cX6_nextToken 250 = .ok (.aload_n 0, 1) := by decide +kernel
theorem dX6_nextToken_251 : decode cX6_nextToken 251 = .ok (.getfield 223, 3) := by decide +kernel
theorem dX6_nextToken_254 : decode cX6_nextToken 254 = .ok (.iaload, 1) := by decide +kernel
theorem dX6_nextToken_255 : decode cX6_nextToken 255 = .ok (.iadd, 1) := by decide +kernel
theorem dX6_nextToken_256 : decode cX6_nextToken 256 = .ok (.bipush 48, 2) := by decide +kernel
theorem dX6_nextToken_258 : decode cX6_nextToken 258 = .ok (.isub, 1) := by decide +kernel
theorem dX6_nextToken_259 : decode cX6_nextToken 259 = .ok (.goto 7, 3) := by decide +kernel
theorem dX6_nextToken_262 : decode cX6_nextToken 262 = .ok (.aload_n 0, 1) := by decide +kernel
theorem dX6_nextToken_263 : decode cX6_nextToken 263 = .ok (.getfield 241, 3) := by decide +kernel
theorem dX6_nextToken_266 : decode cX6_nextToken 266 = .ok (.putfield 241, 3) := by decide +kernel
theorem dX6_nextToken_269 : decode cX6_nextToken 269 = .ok (.aload_n 0, 1) := by decide +kernel
theorem dX6_nextToken_270 : decode cX6_nextToken 270 = .ok (.dup, 1) := by decide +kernel
theorem dX6_nextToken_271 : decode cX6_nextToken 271 = .ok (.getfield 223, 3) := by decide +kernel
theorem dX6_nextToken_274 : decode cX6_nextToken 274 = .ok (.iconst 1, 1) := by decide +kernel
theorem dX6_nextToken_275 : decode cX6_nextToken 275 = .ok (.iadd, 1) := by decide +kernel
theorem dX6_nextToken_276 : decode cX6_nextToken 276 = .ok (.putfield 223, 3) := by decide +kernel
theorem dX6_nextToken_279 : decode cX6_nextToken 279 = .ok (.goto (-65), 3) := by decide +kernel
theorem dX6_nextToken_282 : decode cX6_nextToken 282 = .ok (.aload_n 0, 1) := by decide +kernel
theorem dX6_nextToken_283 : decode cX6_nextToken 283 = .ok (.iload_n 1, 1) := by decide +kernel
theorem dX6_nextToken_284 : decode cX6_nextToken 284 = .ok (.ifCond .ne 16, 3) := by decide +kernel
theorem dX6_nextToken_287 : decode cX6_nextToken 287 = .ok (.aload_n 0, 1) := by decide +kernel
theorem dX6_nextToken_288 : decode cX6_nextToken 288 = .ok (.getfield 223, 3) := by decide +kernel
theorem dX6_nextToken_291 : decode cX6_nextToken 291 = .ok (.aload_n 0, 1) := by decide +kernel
theorem dX6_nextToken_292 : decode cX6_nextToken 292 = .ok (.getfield 229, 3) := by decide +kernel
theorem dX6_nextToken_295 : decode cX6_nextToken 295 = .ok (.isub, 1) := by decide +kernel
theorem dX6_nextToken_296 : decode cX6_nextToken 296 = .ok (.iconst 4, 1) := by decide +kernel
theorem dX6_nextToken_297 : decode cX6_nextToken 297 = .ok (.if_icmp .le 7, 3) := by decide +kernel
theorem dX6_nextToken_300 : decode cX6_nextToken 300 = .ok (.iconst 4, 1) := by decide +kernel
theorem dX6_nextToken_301 : decode cX6_nextToken 301 = .ok (.goto 4, 3) := by decide +kernel
theorem dX6_nextToken_304 : decode cX6_nextToken 304 = .ok (.iconst 2, 1) := by decide +kernel
theorem dX6_nextToken_305 : decode cX6_nextToken 305 = .ok (.putfield 226, 3) := by decide +kernel
theorem dX6_nextToken_308 : decode cX6_nextToken 308 = .ok (.goto 31, 3) := by decide +kernel
theorem dX6_nextToken_311 : decode cX6_nextToken 311 = .ok (.aload_n 0, 1) := by decide +kernel
theorem dX6_nextToken_312 : decode cX6_nextToken 312 = .ok (.iconst 3, 1) := by decide +kernel
theorem dX6_nextToken_313 : decode cX6_nextToken 313 = .ok (.putfield 226, 3) := by decide +kernel
theorem dX6_nextToken_316 : decode cX6_nextToken 316 = .ok (.aload_n 0, 1) := by decide +kernel
theorem dX6_nextToken_317 : decode cX6_nextToken 317 = .ok (.aload_n 0, 1) := by decide +kernel
theorem dX6_nextToken_318 : decode cX6_nextToken 318 = .ok (.getfield 46, 3) := by decide +kernel
theorem dX6_nextToken_321 : decode cX6_nextToken 321 = .ok (.aload_n 0, 1) := by decide +kernel
theorem dX6_nextToken_322 : decode cX6_nextToken 322 = .ok (.getfield 229, 3) := by decide +kernel
theorem dX6_nextToken_325 : decode cX6_nextToken 325 = .ok (.iaload, 1) := by decide +kernel
theorem dX6_nextToken_326 : decode cX6_nextToken 326 = .ok (.putfield 235, 3) := by decide +kernel
theorem dX6_nextToken_329 : decode cX6_nextToken 329 = .ok (.aload_n 0, 1) := by decide +kernel
theorem dX6_nextToken_330 : decode cX6_nextToken 330 = .ok (.dup, 1) := by decide +kernel
theorem dX6_nextToken_331 : decode cX6_nextToken 331 = .ok (.getfield 223, 3) := by decide +kernel
theorem dX6_nextToken_334 : decode cX6_nextToken 334 = .ok (.iconst 1, 1) := by decide +kernel
theorem dX6_nextToken_335 : decode cX6_nextToken 335 = .ok (.iadd, 1) := by decide +kernel
theorem dX6_nextToken_336 : decode cX6_nextToken 336 = .ok (.putfield 223, 3) := by decide +kernel
theorem dX6_nextToken_339 : decode cX6_nextToken 339 = .ok (.return_, 1) := by decide +kernel
theorem dX6_isSign_0 : decode cX6_isSign 0 = .ok (.aload_n 0, 1) := by decide +kernel
theorem dX6_isSign_1 : decode cX6_isSign 1 = .ok (.getfield 226, 3) := by decide +kernel
theorem dX6_isSign_4 : decode cX6_isSign 4 = .ok (.iconst 3, 1) := by decide +kernel
theorem dX6_isSign_5 : decode cX6_isSign 5 = .ok (.if_icmp .ne 15, 3) := by decide +kernel
theorem dX6_isSign_8 : decode cX6_isSign 8 = .ok (.aload_n 0, 1) := by decide +kernel
theorem dX6_isSign_9 : decode cX6_isSign 9 = .ok (.getfield 235, 3) := by decide +kernel
theorem dX6_isSign_12 : decode cX6_isSign 12 = .ok (.iload_n 1, 1) := by decide +kernel
theorem dX6_isSign_13 : decode cX6_isSign 13 = .ok (.if_icmp .ne 7, 3) := by decide +kernel
theorem dX6_isSign_16 : decode cX6_isSign 16 = .ok (.iconst 1, 1) := by decide +kernel
theorem dX6_isSign_17 : decode cX6_isSign 17 = .ok (.goto 4, 3) := by decide +kernel
theorem dX6_isSign_20 : decode cX6_isSign 20 = .ok (.iconst 0, 1) := by decide +kernel
theorem dX6_isSign_21 : decode cX6_isSign 21 = .ok (.ireturn, 1) := by decide +kernel
theorem dX6_isWordAt_0 : decode cX6_isWordAt 0 = .ok (.iload 4, 2) := by decide +kernel
theorem dX6_isWordAt_2 : decode cX6_isWordAt 2 = .ok (.ifCond .ne 7, 3) := by decide +kernel
theorem dX6_isWordAt_5 : decode cX6_isWordAt 5 = .ok (.iconst 3, 1) := by decide +kernel
theorem dX6_isWordAt_6 : decode cX6_isWordAt 6 = .ok (.goto 4, 3) := by decide +kernel
theorem dX6_isWordAt_9 : decode cX6_isWordAt 9 = .ok (.iconst 4, 1) := by decide +kernel
theorem dX6_isWordAt_10 : decode cX6_isWordAt 10 = .ok (.istore 5, 2) := by decide +kernel
theorem dX6_isWordAt_12 : decode cX6_isWordAt 12 = .ok (.aload_n 0, 1) := by decide +kernel
theorem dX6_isWordAt_13 : decode cX6_isWordAt 13 = .ok (.getfield 226, 3) := by decide +kernel
theorem dX6_isWordAt_16 : decode cX6_isWordAt 16 = .ok (.iconst 1, 1) := by decide +kernel
theorem dX6_isWordAt_17 : decode cX6_isWordAt 17 = .ok (.if_icmp .ne 85, 3) := by decide +kernel
theorem dX6_isWordAt_20 : decode cX6_isWordAt 20 = .ok (.aload_n 0, 1) := by decide +kernel
theorem dX6_isWordAt_21 : decode cX6_isWordAt 21 = .ok (.getfield 223, 3) := by decide +kernel
theorem dX6_isWordAt_24 : decode cX6_isWordAt 24 = .ok (.aload_n 0, 1) := by decide +kernel
theorem dX6_isWordAt_25 : decode cX6_isWordAt 25 = .ok (.getfield 229, 3) := by decide +kernel
theorem dX6_isWordAt_28 : decode cX6_isWordAt 28 = .ok (.isub, 1) := by decide +kernel
theorem dX6_isWordAt_29 : decode cX6_isWordAt 29 = .ok (.iload 5, 2) := by decide +kernel
theorem dX6_isWordAt_31 : decode cX6_isWordAt 31 = .ok (.if_icmp .ne 71, 3) := by decide +kernel
theorem dX6_isWordAt_34 : decode cX6_isWordAt 34 = .ok (.aload_n 0, 1) := by decide +kernel
theorem dX6_isWordAt_35 : decode cX6_isWordAt 35 = .ok (.getfield 46, 3) := by decide +kernel
theorem dX6_isWordAt_38 : decode cX6_isWordAt 38 = .ok (.aload_n 0, 1) := by decide +kernel
theorem dX6_isWordAt_39 : decode cX6_isWordAt 39 = .ok (.getfield 229, 3) := by decide +kernel
theorem dX6_isWordAt_42 : decode cX6_isWordAt 42 = .ok (.iaload, 1) := by decide +kernel
theorem dX6_isWordAt_43 : decode cX6_isWordAt 43 = .ok (.iload_n 1, 1) := by decide +kernel
theorem dX6_isWordAt_44 : decode cX6_isWordAt 44 = .ok (.if_icmp .ne 58, 3) := by decide +kernel
theorem dX6_isWordAt_47 : decode cX6_isWordAt 47 = .ok (.aload_n 0, 1) := by decide +kernel
theorem dX6_isWordAt_48 : decode cX6_isWordAt 48 = .ok (.getfield 46, 3) := by decide +kernel
theorem dX6_isWordAt_51 : decode cX6_isWordAt 51 = .ok (.aload_n 0, 1) := by decide +kernel
theorem dX6_isWordAt_52 : decode cX6_isWordAt 52 = .ok (.getfield 229, 3) := by decide +kernel
theorem dX6_isWordAt_55 : decode cX6_isWordAt 55 = .ok (.iconst 1, 1) := by decide +kernel
theorem dX6_isWordAt_56 : decode cX6_isWordAt 56 = .ok (.iadd, 1) := by decide +kernel
theorem dX6_isWordAt_57 : decode cX6_isWordAt 57 = .ok (.iaload, 1) := by decide +kernel
theorem dX6_isWordAt_58 : decode cX6_isWordAt 58 = .ok (.iload_n 2, 1) := by decide +kernel
theorem dX6_isWordAt_59 : decode cX6_isWordAt 59 = .ok (.if_icmp .ne 43, 3) := by decide +kernel
theorem dX6_isWordAt_62 : decode cX6_isWordAt 62 = .ok (.aload_n 0, 1) := by decide +kernel
theorem dX6_isWordAt_63 : decode cX6_isWordAt 63 = .ok (.getfield 46, 3) := by decide +kernel
theorem dX6_isWordAt_66 : decode cX6_isWordAt 66 = .ok (.aload_n 0, 1) := by decide +kernel
theorem dX6_isWordAt_67 : decode cX6_isWordAt 67 = .ok (.getfield 229, 3) := by decide +kernel
theorem dX6_isWordAt_70 : decode cX6_isWordAt 70 = .ok (.iconst 2, 1) := by decide +kernel
theorem dX6_isWordAt_71 : decode cX6_isWordAt 71 = .ok (.iadd, 1) := by decide +kernel
theorem dX6_isWordAt_72 : decode cX6_isWordAt 72 = .ok (.iaload, 1) := by decide +kernel
theorem dX6_isWordAt_73 : decode cX6_isWordAt 73 = .ok (.iload_n 3, 1) := by decide +kernel
theorem dX6_isWordAt_74 : decode cX6_isWordAt 74 = .ok (.if_icmp .ne 28, 3) := by decide +kernel
theorem dX6_isWordAt_77 : decode cX6_isWordAt 77 = .ok (.iload 4, 2) := by decide +kernel
theorem dX6_isWordAt_79 : decode cX6_isWordAt 79 = .ok (.ifCond .eq 19, 3) := by decide +kernel
theorem dX6_isWordAt_82 : decode cX6_isWordAt 82 = .ok (.aload_n 0, 1) := by decide +kernel
theorem dX6_isWordAt_83 : decode cX6_isWordAt 83 = .ok (.getfield 46, 3) := by decide +kernel
theorem dX6_isWordAt_86 : decode cX6_isWordAt 86 = .ok (.aload_n 0, 1) := by decide +kernel
theorem dX6_isWordAt_87 : decode cX6_isWordAt 87 = .ok (.getfield 229, 3) := by decide +kernel
theorem dX6_isWordAt_90 : decode cX6_isWordAt 90 = .ok (.iconst 3, 1) := by decide +kernel
theorem dX6_isWordAt_91 : decode cX6_isWordAt 91 = .ok (.iadd, 1) := by decide +kernel
theorem dX6_isWordAt_92 : decode cX6_isWordAt 92 = .ok (.iaload, 1) := by decide +kernel
theorem dX6_isWordAt_93 : decode cX6_isWordAt 93 = .ok (.iload 4, 2) := by decide +kernel
theorem dX6_isWordAt_95 : decode cX6_isWordAt 95 = .ok (.if_icmp .ne 7, 3) := by decide +kernel
theorem dX6_isWordAt_98 : decode cX6_isWordAt 98 = .ok (.iconst 1, 1) := by decide +kernel
theorem dX6_isWordAt_99 : decode cX6_isWordAt 99 = .ok (.goto 4, 3) := by decide +kernel
theorem dX6_isWordAt_102 : decode cX6_isWordAt 102 = .ok (.iconst 0, 1) := by decide +kernel
theorem dX6_isWordAt_103 : decode cX6_isWordAt 103 = .ok (.ireturn, 1) := by decide +kernel
theorem dX6_key_0 : decode cX6_key 0 = .ok (.aload_n 0, 1) := by decide +kernel
theorem dX6_key_1 : decode cX6_key 1 = .ok (.getfield 226, 3) := by decide +kernel
theorem dX6_key_4 : decode cX6_key 4 = .ok (.iconst 1, 1) := by decide +kernel
theorem dX6_key_5 : decode cX6_key 5 = .ok (.if_icmp .ne 113, 3) := by decide +kernel
theorem dX6_key_8 : decode cX6_key 8 = .ok (.aload_n 0, 1) := by decide +kernel
theorem dX6_key_9 : decode cX6_key 9 = .ok (.getfield 223, 3) := by decide +kernel
theorem dX6_key_12 : decode cX6_key 12 = .ok (.aload_n 0, 1) := by decide +kernel
theorem dX6_key_13 : decode cX6_key 13 = .ok (.getfield 229, 3) := by decide +kernel
theorem dX6_key_16 : decode cX6_key 16 = .ok (.isub, 1) := by decide +kernel
theorem dX6_key_17 : decode cX6_key 17 = .ok (.bipush 6, 2) := by decide +kernel
theorem dX6_key_19 : decode cX6_key 19 = .ok (.if_icmp .ne 99, 3) := by decide +kernel
theorem dX6_key_22 : decode cX6_key 22 = .ok (.aload_n 0, 1) := by decide +kernel
theorem dX6_key_23 : decode cX6_key 23 = .ok (.getfield 46, 3) := by decide +kernel
theorem dX6_key_26 : decode cX6_key 26 = .ok (.aload_n 0, 1) := by decide +kernel
theorem dX6_key_27 : decode cX6_key 27 = .ok (.getfield 229, 3) := by decide +kernel
theorem dX6_key_30 : decode cX6_key 30 = .ok (.iaload, 1) := by decide +kernel
theorem dX6_key_31 : decode cX6_key 31 = .ok (.bipush 98, 2) := by decide +kernel
theorem dX6_key_33 : decode cX6_key 33 = .ok (.if_icmp .ne 85, 3) := by decide +kernel
theorem dX6_key_36 : decode cX6_key 36 = .ok (.aload_n 0, 1) := by decide +kernel
theorem dX6_key_37 : decode cX6_key 37 = .ok (.getfield 46, 3) := by decide +kernel
theorem dX6_key_40 : decode cX6_key 40 = .ok (.aload_n 0, 1) := by decide +kernel
theorem dX6_key_41 : decode cX6_key 41 = .ok (.getfield 229, 3) := by decide +kernel
theorem dX6_key_44 : decode cX6_key 44 = .ok (.iconst 1, 1) := by decide +kernel
theorem dX6_key_45 : decode cX6_key 45 = .ok (.iadd, 1) := by decide +kernel
theorem dX6_key_46 : decode cX6_key 46 = .ok (.iaload, 1) := by decide +kernel
theorem dX6_key_47 : decode cX6_key 47 = .ok (.bipush 114, 2) := by decide +kernel
theorem dX6_key_49 : decode cX6_key 49 = .ok (.if_icmp .ne 69, 3) := by decide +kernel
theorem dX6_key_52 : decode cX6_key 52 = .ok (.aload_n 0, 1) := by decide +kernel
theorem dX6_key_53 : decode cX6_key 53 = .ok (.getfield 46, 3) := by decide +kernel
theorem dX6_key_56 : decode cX6_key 56 = .ok (.aload_n 0, 1) := by decide +kernel
theorem dX6_key_57 : decode cX6_key 57 = .ok (.getfield 229, 3) := by decide +kernel
theorem dX6_key_60 : decode cX6_key 60 = .ok (.iconst 2, 1) := by decide +kernel
theorem dX6_key_61 : decode cX6_key 61 = .ok (.iadd, 1) := by decide +kernel
theorem dX6_key_62 : decode cX6_key 62 = .ok (.iaload, 1) := by decide +kernel
theorem dX6_key_63 : decode cX6_key 63 = .ok (.bipush 101, 2) := by decide +kernel
theorem dX6_key_65 : decode cX6_key 65 = .ok (.if_icmp .ne 53, 3) := by decide +kernel
theorem dX6_key_68 : decode cX6_key 68 = .ok (.aload_n 0, 1) := by decide +kernel
theorem dX6_key_69 : decode cX6_key 69 = .ok (.getfield 46, 3) := by decide +kernel
theorem dX6_key_72 : decode cX6_key 72 = .ok (.aload_n 0, 1) := by decide +kernel
theorem dX6_key_73 : decode cX6_key 73 = .ok (.getfield 229, 3) := by decide +kernel
theorem dX6_key_76 : decode cX6_key 76 = .ok (.iconst 3, 1) := by decide +kernel
theorem dX6_key_77 : decode cX6_key 77 = .ok (.iadd, 1) := by decide +kernel
theorem dX6_key_78 : decode cX6_key 78 = .ok (.iaload, 1) := by decide +kernel
theorem dX6_key_79 : decode cX6_key 79 = .ok (.bipush 97, 2) := by decide +kernel
theorem dX6_key_81 : decode cX6_key 81 = .ok (.if_icmp .ne 37, 3) := by decide +kernel
theorem dX6_key_84 : decode cX6_key 84 = .ok (.aload_n 0, 1) := by decide +kernel
theorem dX6_key_85 : decode cX6_key 85 = .ok (.getfield 46, 3) := by decide +kernel
theorem dX6_key_88 : decode cX6_key 88 = .ok (.aload_n 0, 1) := by decide +kernel
theorem dX6_key_89 : decode cX6_key 89 = .ok (.getfield 229, 3) := by decide +kernel
theorem dX6_key_92 : decode cX6_key 92 = .ok (.iconst 4, 1) := by decide +kernel
theorem dX6_key_93 : decode cX6_key 93 = .ok (.iadd, 1) := by decide +kernel
theorem dX6_key_94 : decode cX6_key 94 = .ok (.iaload, 1) := by decide +kernel
theorem dX6_key_95 : decode cX6_key 95 = .ok (.bipush 116, 2) := by decide +kernel
theorem dX6_key_97 : decode cX6_key 97 = .ok (.if_icmp .ne 21, 3) := by decide +kernel
theorem dX6_key_100 : decode cX6_key 100 = .ok (.aload_n 0, 1) := by decide +kernel
theorem dX6_key_101 : decode cX6_key 101 = .ok (.getfield 46, 3) := by decide +kernel
theorem dX6_key_104 : decode cX6_key 104 = .ok (.aload_n 0, 1) := by decide +kernel
theorem dX6_key_105 : decode cX6_key 105 = .ok (.getfield 229, 3) := by decide +kernel
theorem dX6_key_108 : decode cX6_key 108 = .ok (.iconst 5, 1) := by decide +kernel
theorem dX6_key_109 : decode cX6_key 109 = .ok (.iadd, 1) := by decide +kernel
theorem dX6_key_110 : decode cX6_key 110 = .ok (.iaload, 1) := by decide +kernel
theorem dX6_key_111 : decode cX6_key 111 = .ok (.bipush 104, 2) := by decide +kernel
theorem dX6_key_113 : decode cX6_key 113 = .ok (.if_icmp .ne 5, 3) := by decide +kernel
theorem dX6_key_116 : decode cX6_key 116 = .ok (.iconst 0, 1) := by decide +kernel
theorem dX6_key_117 : decode cX6_key 117 = .ok (.ireturn, 1) := by decide +kernel
theorem dX6_key_118 : decode cX6_key 118 = .ok (.aload_n 0, 1) := by decide +kernel
theorem dX6_key_119 : decode cX6_key 119 = .ok (.bipush 102, 2) := by decide +kernel
theorem dX6_key_121 : decode cX6_key 121 = .ok (.bipush 101, 2) := by decide +kernel
theorem dX6_key_123 : decode cX6_key 123 = .ok (.bipush 101, 2) := by decide +kernel
theorem dX6_key_125 : decode cX6_key 125 = .ok (.iconst 0, 1) := by decide +kernel
theorem dX6_key_126 : decode cX6_key 126 = .ok (.invokevirtual 244, 3) := by decide +kernel
theorem dX6_key_129 : decode cX6_key 129 = .ok (.ifCond .eq 5, 3) := by decide +kernel
theorem dX6_key_132 : decode cX6_key 132 = .ok (.iconst 1, 1) := by decide +kernel
theorem dX6_key_133 : decode cX6_key 133 = .ok (.ireturn, 1) := by decide +kernel
theorem dX6_key_134 : decode cX6_key 134 = .ok (.aload_n 0, 1) := by decide +kernel
theorem dX6_key_135 : decode cX6_key 135 = .ok (.bipush 102, 2) := by decide +kernel
theorem dX6_key_137 : decode cX6_key 137 = .ok (.bipush 105, 2) := by decide +kernel
theorem dX6_key_139 : decode cX6_key 139 = .ok (.bipush 110, 2) := by decide +kernel
theorem dX6_key_141 : decode cX6_key 141 = .ok (.bipush 101, 2) := by decide +kernel
theorem dX6_key_143 : decode cX6_key 143 = .ok (.invokevirtual 244, 3) := by decide +kernel
theorem dX6_key_146 : decode cX6_key 146 = .ok (.ifCond .eq 7, 3) := by decide +kernel
theorem dX6_key_149 : decode cX6_key 149 = .ok (.iconst 2, 1) := by decide +kernel
theorem dX6_key_150 : decode cX6_key 150 = .ok (.goto 4, 3) := by decide +kernel
theorem dX6_key_153 : decode cX6_key 153 = .ok (.iconst (-1), 1) := by decide +kernel
theorem dX6_key_154 : decode cX6_key 154 = .ok (.ireturn, 1) := by decide +kernel
theorem dX6_isName_0 : decode cX6_isName 0 = .ok (.iload_n 0, 1) := by decide +kernel
theorem dX6_isName_1 : decode cX6_isName 1 = .ok (.lookupswitch 75 #[(0, 27), (1, 57)], 27) := by decide +kernel
theorem dX6_isName_28 : decode cX6_isName 28 = .ok (.iload_n 1, 1) := by decide +kernel
theorem dX6_isName_29 : decode cX6_isName 29 = .ok (.bipush 105, 2) := by decide +kernel
theorem dX6_isName_31 : decode cX6_isName 31 = .ok (.if_icmp .eq 21, 3) := by decide +kernel
theorem dX6_isName_34 : decode cX6_isName 34 = .ok (.iload_n 1, 1) := by decide +kernel
theorem dX6_isName_35 : decode cX6_isName 35 = .ok (.bipush 100, 2) := by decide +kernel
theorem dX6_isName_37 : decode cX6_isName 37 = .ok (.if_icmp .eq 15, 3) := by decide +kernel
theorem dX6_isName_40 : decode cX6_isName 40 = .ok (.iload_n 1, 1) := by decide +kernel
theorem dX6_isName_41 : decode cX6_isName 41 = .ok (.bipush 99, 2) := by decide +kernel
theorem dX6_isName_43 : decode cX6_isName 43 = .ok (.if_icmp .eq 9, 3) := by decide +kernel
theorem dX6_isName_46 : decode cX6_isName 46 = .ok (.iload_n 1, 1) := by decide +kernel
theorem dX6_isName_47 : decode cX6_isName 47 = .ok (.bipush 110, 2) := by decide +kernel
theorem dX6_isName_49 : decode cX6_isName 49 = .ok (.if_icmp .ne 7, 3) := by decide +kernel
theorem dX6_isName_52 : decode cX6_isName 52 = .ok (.iconst 1, 1) := by decide +kernel
theorem dX6_isName_53 : decode cX6_isName 53 = .ok (.goto 4, 3) := by decide +kernel
theorem dX6_isName_56 : decode cX6_isName 56 = .ok (.iconst 0, 1) := by decide +kernel
theorem dX6_isName_57 : decode cX6_isName 57 = .ok (.ireturn, 1) := by decide +kernel
theorem dX6_isName_58 : decode cX6_isName 58 = .ok (.iload_n 1, 1) := by decide +kernel
theorem dX6_isName_59 : decode cX6_isName 59 = .ok (.bipush 115, 2) := by decide +kernel
theorem dX6_isName_61 : decode cX6_isName 61 = .ok (.if_icmp .eq 9, 3) := by decide +kernel
theorem dX6_isName_64 : decode cX6_isName 64 = .ok (.iload_n 1, 1) := by decide +kernel
theorem dX6_isName_65 : decode cX6_isName 65 = .ok (.bipush 103, 2) := by decide +kernel
theorem dX6_isName_67 : decode cX6_isName 67 = .ok (.if_icmp .ne 7, 3) := by decide +kernel
theorem dX6_isName_70 : decode cX6_isName 70 = .ok (.iconst 1, 1) := by decide +kernel
theorem dX6_isName_71 : decode cX6_isName 71 = .ok (.goto 4, 3) := by decide +kernel
theorem dX6_isName_74 : decode cX6_isName 74 = .ok (.iconst 0, 1) := by decide +kernel
theorem dX6_isName_75 : decode cX6_isName 75 = .ok (.ireturn, 1) := by decide +kernel
theorem dX6_isName_76 : decode cX6_isName 76 = .ok (.iload_n 1, 1) := by decide +kernel
theorem dX6_isName_77 : decode cX6_isName 77 = .ok (.bipush 105, 2) := by decide +kernel
theorem dX6_isName_79 : decode cX6_isName 79 = .ok (.if_icmp .eq 9, 3) := by decide +kernel
theorem dX6_isName_82 : decode cX6_isName 82 = .ok (.iload_n 1, 1) := by decide +kernel
theorem dX6_isName_83 : decode cX6_isName 83 = .ok (.bipush 100, 2) := by decide +kernel
theorem dX6_isName_85 : decode cX6_isName 85 = .ok (.if_icmp .ne 7, 3) := by decide +kernel
theorem dX6_isName_88 : decode cX6_isName 88 = .ok (.iconst 1, 1) := by decide +kernel
theorem dX6_isName_89 : decode cX6_isName 89 = .ok (.goto 4, 3) := by decide +kernel
theorem dX6_isName_92 : decode cX6_isName 92 = .ok (.iconst 0, 1) := by decide +kernel
theorem dX6_isName_93 : decode cX6_isName 93 = .ok (.ireturn, 1) := by decide +kernel
theorem dX6_step_0 : decode cX6_step 0 = .ok (.aload_n 0, 1) := by decide +kernel
theorem dX6_step_1 : decode cX6_step 1 = .ok (.getfield 7, 3) := by decide +kernel
theorem dX6_step_4 : decode cX6_step 4 = .ok (.aload_n 0, 1) := by decide +kernel
theorem dX6_step_5 : decode cX6_step 5 = .ok (.getfield 248, 3) := by decide +kernel
theorem dX6_step_8 : decode cX6_step 8 = .ok (.iconst 2, 1) := by decide +kernel
theorem dX6_step_9 : decode cX6_step 9 = .ok (.aload_n 0, 1) := by decide +kernel
theorem dX6_step_10 : decode cX6_step 10 = .ok (.getfield 251, 3) := by decide +kernel
theorem dX6_step_13 : decode cX6_step 13 = .ok (.imul, 1) := by decide +kernel
theorem dX6_step_14 : decode cX6_step 14 = .ok (.iadd, 1) := by decide +kernel
theorem dX6_step_15 : decode cX6_step 15 = .ok (.iload_n 1, 1) := by decide +kernel
theorem dX6_step_16 : decode cX6_step 16 = .ok (.iastore, 1) := by decide +kernel
theorem dX6_step_17 : decode cX6_step 17 = .ok (.aload_n 0, 1) := by decide +kernel
theorem dX6_step_18 : decode cX6_step 18 = .ok (.getfield 7, 3) := by decide +kernel
theorem dX6_step_21 : decode cX6_step 21 = .ok (.aload_n 0, 1) := by decide +kernel
theorem dX6_step_22 : decode cX6_step 22 = .ok (.getfield 248, 3) := by decide +kernel
theorem dX6_step_25 : decode cX6_step 25 = .ok (.iconst 2, 1) := by decide +kernel
theorem dX6_step_26 : decode cX6_step 26 = .ok (.aload_n 0, 1) := by decide +kernel
theorem dX6_step_27 : decode cX6_step 27 = .ok (.getfield 251, 3) := by decide +kernel
theorem dX6_step_30 : decode cX6_step 30 = .ok (.imul, 1) := by decide +kernel
theorem dX6_step_31 : decode cX6_step 31 = .ok (.iadd, 1) := by decide +kernel
theorem dX6_step_32 : decode cX6_step 32 = .ok (.iconst 1, 1) := by decide +kernel
theorem dX6_step_33 : decode cX6_step 33 = .ok (.iadd, 1) := by decide +kernel
theorem dX6_step_34 : decode cX6_step 34 = .ok (.iload_n 2, 1) := by decide +kernel
theorem dX6_step_35 : decode cX6_step 35 = .ok (.iastore, 1) := by decide +kernel
theorem dX6_step_36 : decode cX6_step 36 = .ok (.aload_n 0, 1) := by decide +kernel
theorem dX6_step_37 : decode cX6_step 37 = .ok (.dup, 1) := by decide +kernel
theorem dX6_step_38 : decode cX6_step 38 = .ok (.getfield 251, 3) := by decide +kernel
theorem dX6_step_41 : decode cX6_step 41 = .ok (.iconst 1, 1) := by decide +kernel
theorem dX6_step_42 : decode cX6_step 42 = .ok (.iadd, 1) := by decide +kernel
theorem dX6_step_43 : decode cX6_step 43 = .ok (.putfield 251, 3) := by decide +kernel
theorem dX6_step_46 : decode cX6_step 46 = .ok (.return_, 1) := by decide +kernel
theorem dX6_either_0 : decode cX6_either 0 = .ok (.aload_n 0, 1) := by decide +kernel
theorem dX6_either_1 : decode cX6_either 1 = .ok (.iload_n 1, 1) := by decide +kernel
theorem dX6_either_2 : decode cX6_either 2 = .ok (.invokevirtual 254, 3) := by decide +kernel
theorem dX6_either_5 : decode cX6_either 5 = .ok (.ifCond .ne 5, 3) := by decide +kernel
theorem dX6_either_8 : decode cX6_either 8 = .ok (.iconst 0, 1) := by decide +kernel
theorem dX6_either_9 : decode cX6_either 9 = .ok (.ireturn, 1) := by decide +kernel
theorem dX6_either_10 : decode cX6_either 10 = .ok (.aload_n 0, 1) := by decide +kernel
theorem dX6_either_11 : decode cX6_either 11 = .ok (.bipush 124, 2) := by decide +kernel
theorem dX6_either_13 : decode cX6_either 13 = .ok (.invokevirtual 257, 3) := by decide +kernel
theorem dX6_either_16 : decode cX6_either 16 = .ok (.ifCond .eq 27, 3) := by decide +kernel
theorem dX6_either_19 : decode cX6_either 19 = .ok (.aload_n 0, 1) := by decide +kernel
theorem dX6_either_20 : decode cX6_either 20 = .ok (.invokevirtual 260, 3) := by decide +kernel
theorem dX6_either_23 : decode cX6_either 23 = .ok (.aload_n 0, 1) := by decide +kernel
theorem dX6_either_24 : decode cX6_either 24 = .ok (.iload_n 1, 1) := by decide +kernel
theorem dX6_either_25 : decode cX6_either 25 = .ok (.invokevirtual 254, 3) := by decide +kernel
theorem dX6_either_28 : decode cX6_either 28 = .ok (.ifCond .ne 5, 3) := by decide +kernel
theorem dX6_either_31 : decode cX6_either 31 = .ok (.iconst 0, 1) := by decide +kernel
theorem dX6_either_32 : decode cX6_either 32 = .ok (.ireturn, 1) := by decide +kernel
theorem dX6_either_33 : decode cX6_either 33 = .ok (.aload_n 0, 1) := by decide +kernel
theorem dX6_either_34 : decode cX6_either 34 = .ok (.iconst 2, 1) := by decide +kernel
theorem dX6_either_35 : decode cX6_either 35 = .ok (.bipush 124, 2) := by decide +kernel
theorem dX6_either_37 : decode cX6_either 37 = .ok (.invokevirtual 263, 3) := by decide +kernel
theorem dX6_either_40 : decode cX6_either 40 = .ok (.goto (-30), 3) := by decide +kernel
theorem dX6_either_43 : decode cX6_either 43 = .ok (.iconst 1, 1) := by decide +kernel
theorem dX6_either_44 : decode cX6_either 44 = .ok (.ireturn, 1) := by decide +kernel
theorem dX6_both_0 : decode cX6_both 0 = .ok (.aload_n 0, 1) := by decide +kernel
theorem dX6_both_1 : decode cX6_both 1 = .ok (.iload_n 1, 1) := by decide +kernel
theorem dX6_both_2 : decode cX6_both 2 = .ok (.invokevirtual 267, 3) := by decide +kernel
theorem dX6_both_5 : decode cX6_both 5 = .ok (.ifCond .ne 5, 3) := by decide +kernel
theorem dX6_both_8 : decode cX6_both 8 = .ok (.iconst 0, 1) := by decide +kernel
theorem dX6_both_9 : decode cX6_both 9 = .ok (.ireturn, 1) := by decide +kernel
theorem dX6_both_10 : decode cX6_both 10 = .ok (.aload_n 0, 1) := by decide +kernel
theorem dX6_both_11 : decode cX6_both 11 = .ok (.bipush 38, 2) := by decide +kernel
theorem dX6_both_13 : decode cX6_both 13 = .ok (.invokevirtual 257, 3) := by decide +kernel
theorem dX6_both_16 : decode cX6_both 16 = .ok (.ifCond .eq 27, 3) := by decide +kernel
theorem dX6_both_19 : decode cX6_both 19 = .ok (.aload_n 0, 1) := by decide +kernel
theorem dX6_both_20 : decode cX6_both 20 = .ok (.invokevirtual 260, 3) := by decide +kernel
theorem dX6_both_23 : decode cX6_both 23 = .ok (.aload_n 0, 1) := by decide +kernel
theorem dX6_both_24 : decode cX6_both 24 = .ok (.iload_n 1, 1) := by decide +kernel
theorem dX6_both_25 : decode cX6_both 25 = .ok (.invokevirtual 267, 3) := by decide +kernel
theorem dX6_both_28 : decode cX6_both 28 = .ok (.ifCond .ne 5, 3) := by decide +kernel
theorem dX6_both_31 : decode cX6_both 31 = .ok (.iconst 0, 1) := by decide +kernel
theorem dX6_both_32 : decode cX6_both 32 = .ok (.ireturn, 1) := by decide +kernel
theorem dX6_both_33 : decode cX6_both 33 = .ok (.aload_n 0, 1) := by decide +kernel
theorem dX6_both_34 : decode cX6_both 34 = .ok (.iconst 2, 1) := by decide +kernel
theorem dX6_both_35 : decode cX6_both 35 = .ok (.bipush 38, 2) := by decide +kernel
theorem dX6_both_37 : decode cX6_both 37 = .ok (.invokevirtual 263, 3) := by decide +kernel
theorem dX6_both_40 : decode cX6_both 40 = .ok (.goto (-30), 3) := by decide +kernel
theorem dX6_both_43 : decode cX6_both 43 = .ok (.iconst 1, 1) := by decide +kernel
theorem dX6_both_44 : decode cX6_both 44 = .ok (.ireturn, 1) := by decide +kernel
theorem dX6_test_0 : decode cX6_test 0 = .ok (.aload_n 0, 1) := by decide +kernel
theorem dX6_test_1 : decode cX6_test 1 = .ok (.iload_n 1, 1) := by decide +kernel
theorem dX6_test_2 : decode cX6_test 2 = .ok (.invokevirtual 270, 3) := by decide +kernel
theorem dX6_test_5 : decode cX6_test 5 = .ok (.ifCond .ne 5, 3) := by decide +kernel
theorem dX6_test_8 : decode cX6_test 8 = .ok (.iconst 0, 1) := by decide +kernel
theorem dX6_test_9 : decode cX6_test 9 = .ok (.ireturn, 1) := by decide +kernel
theorem dX6_test_10 : decode cX6_test 10 = .ok (.aload_n 0, 1) := by decide +kernel
theorem dX6_test_11 : decode cX6_test 11 = .ok (.bipush 60, 2) := by decide +kernel
theorem dX6_test_13 : decode cX6_test 13 = .ok (.invokevirtual 257, 3) := by decide +kernel
theorem dX6_test_16 : decode cX6_test 16 = .ok (.ifCond .ne 21, 3) := by decide +kernel
theorem dX6_test_19 : decode cX6_test 19 = .ok (.aload_n 0, 1) := by decide +kernel
theorem dX6_test_20 : decode cX6_test 20 = .ok (.bipush 61, 2) := by decide +kernel
theorem dX6_test_22 : decode cX6_test 22 = .ok (.invokevirtual 257, 3) := by decide +kernel
theorem dX6_test_25 : decode cX6_test 25 = .ok (.ifCond .ne 12, 3) := by decide +kernel
theorem dX6_test_28 : decode cX6_test 28 = .ok (.aload_n 0, 1) := by decide +kernel
theorem dX6_test_29 : decode cX6_test 29 = .ok (.bipush 62, 2) := by decide +kernel
theorem dX6_test_31 : decode cX6_test 31 = .ok (.invokevirtual 257, 3) := by decide +kernel
theorem dX6_test_34 : decode cX6_test 34 = .ok (.ifCond .eq 28, 3) := by decide +kernel
theorem dX6_test_37 : decode cX6_test 37 = .ok (.aload_n 0, 1) := by decide +kernel
theorem dX6_test_38 : decode cX6_test 38 = .ok (.getfield 235, 3) := by decide +kernel
theorem dX6_test_41 : decode cX6_test 41 = .ok (.istore_n 2, 1) := by decide +kernel
theorem dX6_test_42 : decode cX6_test 42 = .ok (.aload_n 0, 1) := by decide +kernel
theorem dX6_test_43 : decode cX6_test 43 = .ok (.invokevirtual 260, 3) := by decide +kernel
theorem dX6_test_46 : decode cX6_test 46 = .ok (.aload_n 0, 1) := by decide +kernel
theorem dX6_test_47 : decode cX6_test 47 = .ok (.iload_n 1, 1) := by decide +kernel
theorem dX6_test_48 : decode cX6_test 48 = .ok (.invokevirtual 270, 3) := by decide +kernel
theorem dX6_test_51 : decode cX6_test 51 = .ok (.ifCond .ne 5, 3) := by decide +kernel
theorem dX6_test_54 : decode cX6_test 54 = .ok (.iconst 0, 1) := by decide +kernel
theorem dX6_test_55 : decode cX6_test 55 = .ok (.ireturn, 1) := by decide +kernel
theorem dX6_test_56 : decode cX6_test 56 = .ok (.aload_n 0, 1) := by decide +kernel
theorem dX6_test_57 : decode cX6_test 57 = .ok (.iconst 2, 1) := by decide +kernel
theorem dX6_test_58 : decode cX6_test 58 = .ok (.iload_n 2, 1) := by decide +kernel
theorem dX6_test_59 : decode cX6_test 59 = .ok (.invokevirtual 263, 3) := by decide +kernel
theorem dX6_test_62 : decode cX6_test 62 = .ok (.iconst 1, 1) := by decide +kernel
theorem dX6_test_63 : decode cX6_test 63 = .ok (.ireturn, 1) := by decide +kernel
theorem dX6_sum_0 : decode cX6_sum 0 = .ok (.aload_n 0, 1) := by decide +kernel
theorem dX6_sum_1 : decode cX6_sum 1 = .ok (.iload_n 1, 1) := by decide +kernel
theorem dX6_sum_2 : decode cX6_sum 2 = .ok (.invokevirtual 273, 3) := by decide +kernel
theorem dX6_sum_5 : decode cX6_sum 5 = .ok (.ifCond .ne 5, 3) := by decide +kernel
theorem dX6_sum_8 : decode cX6_sum 8 = .ok (.iconst 0, 1) := by decide +kernel
theorem dX6_sum_9 : decode cX6_sum 9 = .ok (.ireturn, 1) := by decide +kernel
theorem dX6_sum_10 : decode cX6_sum 10 = .ok (.aload_n 0, 1) := by decide +kernel
theorem dX6_sum_11 : decode cX6_sum 11 = .ok (.bipush 43, 2) := by decide +kernel
theorem dX6_sum_13 : decode cX6_sum 13 = .ok (.invokevirtual 257, 3) := by decide +kernel
theorem dX6_sum_16 : decode cX6_sum 16 = .ok (.ifCond .ne 12, 3) := by decide +kernel
theorem dX6_sum_19 : decode cX6_sum 19 = .ok (.aload_n 0, 1) := by decide +kernel
theorem dX6_sum_20 : decode cX6_sum 20 = .ok (.bipush 45, 2) := by decide +kernel
theorem dX6_sum_22 : decode cX6_sum 22 = .ok (.invokevirtual 257, 3) := by decide +kernel
theorem dX6_sum_25 : decode cX6_sum 25 = .ok (.ifCond .eq 31, 3) := by decide +kernel
theorem dX6_sum_28 : decode cX6_sum 28 = .ok (.aload_n 0, 1) := by decide +kernel
theorem dX6_sum_29 : decode cX6_sum 29 = .ok (.getfield 235, 3) := by decide +kernel
theorem dX6_sum_32 : decode cX6_sum 32 = .ok (.istore_n 2, 1) := by decide +kernel
theorem dX6_sum_33 : decode cX6_sum 33 = .ok (.aload_n 0, 1) := by decide +kernel
theorem dX6_sum_34 : decode cX6_sum 34 = .ok (.invokevirtual 260, 3) := by decide +kernel
theorem dX6_sum_37 : decode cX6_sum 37 = .ok (.aload_n 0, 1) := by decide +kernel
theorem dX6_sum_38 : decode cX6_sum 38 = .ok (.iload_n 1, 1) := by decide +kernel
theorem dX6_sum_39 : decode cX6_sum 39 = .ok (.invokevirtual 273, 3) := by decide +kernel
theorem dX6_sum_42 : decode cX6_sum 42 = .ok (.ifCond .ne 5, 3) := by decide +kernel
theorem dX6_sum_45 : decode cX6_sum 45 = .ok (.iconst 0, 1) := by decide +kernel
theorem dX6_sum_46 : decode cX6_sum 46 = .ok (.ireturn, 1) := by decide +kernel
theorem dX6_sum_47 : decode cX6_sum 47 = .ok (.aload_n 0, 1) := by decide +kernel
theorem dX6_sum_48 : decode cX6_sum 48 = .ok (.iconst 2, 1) := by decide +kernel
theorem dX6_sum_49 : decode cX6_sum 49 = .ok (.iload_n 2, 1) := by decide +kernel
theorem dX6_sum_50 : decode cX6_sum 50 = .ok (.invokevirtual 263, 3) := by decide +kernel
theorem dX6_sum_53 : decode cX6_sum 53 = .ok (.goto (-43), 3) := by decide +kernel
theorem dX6_sum_56 : decode cX6_sum 56 = .ok (.iconst 1, 1) := by decide +kernel
theorem dX6_sum_57 : decode cX6_sum 57 = .ok (.ireturn, 1) := by decide +kernel
theorem dX6_term_0 : decode cX6_term 0 = .ok (.aload_n 0, 1) := by decide +kernel
theorem dX6_term_1 : decode cX6_term 1 = .ok (.iload_n 1, 1) := by decide +kernel
theorem dX6_term_2 : decode cX6_term 2 = .ok (.invokevirtual 276, 3) := by decide +kernel
theorem dX6_term_5 : decode cX6_term 5 = .ok (.ifCond .ne 5, 3) := by decide +kernel
theorem dX6_term_8 : decode cX6_term 8 = .ok (.iconst 0, 1) := by decide +kernel
theorem dX6_term_9 : decode cX6_term 9 = .ok (.ireturn, 1) := by decide +kernel
theorem dX6_term_10 : decode cX6_term 10 = .ok (.aload_n 0, 1) := by decide +kernel
theorem dX6_term_11 : decode cX6_term 11 = .ok (.bipush 42, 2) := by decide +kernel
theorem dX6_term_13 : decode cX6_term 13 = .ok (.invokevirtual 257, 3) := by decide +kernel
theorem dX6_term_16 : decode cX6_term 16 = .ok (.ifCond .ne 12, 3) := by decide +kernel
theorem dX6_term_19 : decode cX6_term 19 = .ok (.aload_n 0, 1) := by decide +kernel
theorem dX6_term_20 : decode cX6_term 20 = .ok (.bipush 47, 2) := by decide +kernel
theorem dX6_term_22 : decode cX6_term 22 = .ok (.invokevirtual 257, 3) := by decide +kernel
theorem dX6_term_25 : decode cX6_term 25 = .ok (.ifCond .eq 31, 3) := by decide +kernel
theorem dX6_term_28 : decode cX6_term 28 = .ok (.aload_n 0, 1) := by decide +kernel
theorem dX6_term_29 : decode cX6_term 29 = .ok (.getfield 235, 3) := by decide +kernel
theorem dX6_term_32 : decode cX6_term 32 = .ok (.istore_n 2, 1) := by decide +kernel
theorem dX6_term_33 : decode cX6_term 33 = .ok (.aload_n 0, 1) := by decide +kernel
theorem dX6_term_34 : decode cX6_term 34 = .ok (.invokevirtual 260, 3) := by decide +kernel
theorem dX6_term_37 : decode cX6_term 37 = .ok (.aload_n 0, 1) := by decide +kernel
theorem dX6_term_38 : decode cX6_term 38 = .ok (.iload_n 1, 1) := by decide +kernel
theorem dX6_term_39 : decode cX6_term 39 = .ok (.invokevirtual 276, 3) := by decide +kernel
theorem dX6_term_42 : decode cX6_term 42 = .ok (.ifCond .ne 5, 3) := by decide +kernel
theorem dX6_term_45 : decode cX6_term 45 = .ok (.iconst 0, 1) := by decide +kernel
theorem dX6_term_46 : decode cX6_term 46 = .ok (.ireturn, 1) := by decide +kernel
theorem dX6_term_47 : decode cX6_term 47 = .ok (.aload_n 0, 1) := by decide +kernel
theorem dX6_term_48 : decode cX6_term 48 = .ok (.iconst 2, 1) := by decide +kernel
theorem dX6_term_49 : decode cX6_term 49 = .ok (.iload_n 2, 1) := by decide +kernel
theorem dX6_term_50 : decode cX6_term 50 = .ok (.invokevirtual 263, 3) := by decide +kernel
theorem dX6_term_53 : decode cX6_term 53 = .ok (.goto (-43), 3) := by decide +kernel
theorem dX6_term_56 : decode cX6_term 56 = .ok (.iconst 1, 1) := by decide +kernel
theorem dX6_term_57 : decode cX6_term 57 = .ok (.ireturn, 1) := by decide +kernel
theorem dX6_part0_0 : decode cX6_part0 0 = .ok (.aload_n 0, 1) := by decide +kernel
theorem dX6_part0_1 : decode cX6_part0 1 = .ok (.getfield 226, 3) := by decide +kernel
theorem dX6_part0_4 : decode cX6_part0 4 = .ok (.iconst 2, 1) := by decide +kernel
theorem dX6_part0_5 : decode cX6_part0 5 = .ok (.if_icmp .ne 28, 3) := by decide +kernel
theorem dX6_part0_8 : decode cX6_part0 8 = .ok (.aload_n 0, 1) := by decide +kernel
theorem dX6_part0_9 : decode cX6_part0 9 = .ok (.iconst 0, 1) := by decide +kernel
theorem dX6_part0_10 : decode cX6_part0 10 = .ok (.aload_n 0, 1) := by decide +kernel
theorem dX6_part0_11 : decode cX6_part0 11 = .ok (.getfield 241, 3) := by decide +kernel
theorem dX6_part0_14 : decode cX6_part0 14 = .ok (.invokevirtual 263, 3) := by decide +kernel
theorem dX6_part0_17 : decode cX6_part0 17 = .ok (.aload_n 0, 1) := by decide +kernel
theorem dX6_part0_18 : decode cX6_part0 18 = .ok (.dup, 1) := by decide +kernel
theorem dX6_part0_19 : decode cX6_part0 19 = .ok (.getfield 279, 3) := by decide +kernel
theorem dX6_part0_22 : decode cX6_part0 22 = .ok (.iconst 1, 1) := by decide +kernel
theorem dX6_part0_23 : decode cX6_part0 23 = .ok (.iadd, 1) := by decide +kernel
theorem dX6_part0_24 : decode cX6_part0 24 = .ok (.putfield 279, 3) := by decide +kernel
theorem dX6_part0_27 : decode cX6_part0 27 = .ok (.aload_n 0, 1) := by decide +kernel
theorem dX6_part0_28 : decode cX6_part0 28 = .ok (.invokevirtual 260, 3) := by decide +kernel
theorem dX6_part0_31 : decode cX6_part0 31 = .ok (.iconst 1, 1) := by decide +kernel
theorem dX6_part0_32 : decode cX6_part0 32 = .ok (.ireturn, 1) := by decide +kernel
theorem dX6_part0_33 : decode cX6_part0 33 = .ok (.aload_n 0, 1) := by decide +kernel
theorem dX6_part0_34 : decode cX6_part0 34 = .ok (.getfield 226, 3) := by decide +kernel
theorem dX6_part0_37 : decode cX6_part0 37 = .ok (.iconst 1, 1) := by decide +kernel
theorem dX6_part0_38 : decode cX6_part0 38 = .ok (.if_icmp .ne 46, 3) := by decide +kernel
theorem dX6_part0_41 : decode cX6_part0 41 = .ok (.aload_n 0, 1) := by decide +kernel
theorem dX6_part0_42 : decode cX6_part0 42 = .ok (.getfield 235, 3) := by decide +kernel
theorem dX6_part0_45 : decode cX6_part0 45 = .ok (.ifCond .eq 39, 3) := by decide +kernel
theorem dX6_part0_48 : decode cX6_part0 48 = .ok (.iload_n 1, 1) := by decide +kernel
theorem dX6_part0_49 : decode cX6_part0 49 = .ok (.aload_n 0, 1) := by decide +kernel
theorem dX6_part0_50 : decode cX6_part0 50 = .ok (.getfield 235, 3) := by decide +kernel
theorem dX6_part0_53 : decode cX6_part0 53 = .ok (.invokestatic 282, 3) := by decide +kernel
theorem dX6_part0_56 : decode cX6_part0 56 = .ok (.ifCond .eq 28, 3) := by decide +kernel
theorem dX6_part0_59 : decode cX6_part0 59 = .ok (.aload_n 0, 1) := by decide +kernel
theorem dX6_part0_60 : decode cX6_part0 60 = .ok (.iconst 1, 1) := by decide +kernel
theorem dX6_part0_61 : decode cX6_part0 61 = .ok (.aload_n 0, 1) := by decide +kernel
theorem dX6_part0_62 : decode cX6_part0 62 = .ok (.getfield 235, 3) := by decide +kernel
theorem dX6_part0_65 : decode cX6_part0 65 = .ok (.invokevirtual 263, 3) := by decide +kernel
theorem dX6_part0_68 : decode cX6_part0 68 = .ok (.aload_n 0, 1) := by decide +kernel
theorem dX6_part0_69 : decode cX6_part0 69 = .ok (.dup, 1) := by decide +kernel
theorem dX6_part0_70 : decode cX6_part0 70 = .ok (.getfield 279, 3) := by decide +kernel
theorem dX6_part0_73 : decode cX6_part0 73 = .ok (.iconst 1, 1) := by decide +kernel
theorem dX6_part0_74 : decode cX6_part0 74 = .ok (.iadd, 1) := by decide +kernel
theorem dX6_part0_75 : decode cX6_part0 75 = .ok (.putfield 279, 3) := by decide +kernel
theorem dX6_part0_78 : decode cX6_part0 78 = .ok (.aload_n 0, 1) := by decide +kernel
theorem dX6_part0_79 : decode cX6_part0 79 = .ok (.invokevirtual 260, 3) := by decide +kernel
theorem dX6_part0_82 : decode cX6_part0 82 = .ok (.iconst 1, 1) := by decide +kernel
theorem dX6_part0_83 : decode cX6_part0 83 = .ok (.ireturn, 1) := by decide +kernel
theorem dX6_part0_84 : decode cX6_part0 84 = .ok (.aload_n 0, 1) := by decide +kernel
theorem dX6_part0_85 : decode cX6_part0 85 = .ok (.bipush 33, 2) := by decide +kernel
theorem dX6_part0_87 : decode cX6_part0 87 = .ok (.invokevirtual 257, 3) := by decide +kernel
theorem dX6_part0_90 : decode cX6_part0 90 = .ok (.ifCond .eq 55, 3) := by decide +kernel
theorem dX6_part0_93 : decode cX6_part0 93 = .ok (.aload_n 0, 1) := by decide +kernel
theorem dX6_part0_94 : decode cX6_part0 94 = .ok (.getfield 285, 3) := by decide +kernel
theorem dX6_part0_97 : decode cX6_part0 97 = .ok (.bipush 8, 2) := by decide +kernel
theorem dX6_part0_99 : decode cX6_part0 99 = .ok (.if_icmp .ge 46, 3) := by decide +kernel
theorem dX6_part0_102 : decode cX6_part0 102 = .ok (.aload_n 0, 1) := by decide +kernel
theorem dX6_part0_103 : decode cX6_part0 103 = .ok (.dup, 1) := by decide +kernel
theorem dX6_part0_104 : decode cX6_part0 104 = .ok (.getfield 285, 3) := by decide +kernel
theorem dX6_part0_107 : decode cX6_part0 107 = .ok (.iconst 1, 1) := by decide +kernel
theorem dX6_part0_108 : decode cX6_part0 108 = .ok (.iadd, 1) := by decide +kernel
theorem dX6_part0_109 : decode cX6_part0 109 = .ok (.putfield 285, 3) := by decide +kernel
theorem dX6_part0_112 : decode cX6_part0 112 = .ok (.aload_n 0, 1) := by decide +kernel
theorem dX6_part0_113 : decode cX6_part0 113 = .ok (.invokevirtual 260, 3) := by decide +kernel
theorem dX6_part0_116 : decode cX6_part0 116 = .ok (.aload_n 0, 1) := by decide +kernel
theorem dX6_part0_117 : decode cX6_part0 117 = .ok (.iload_n 1, 1) := by decide +kernel
theorem dX6_part0_118 : decode cX6_part0 118 = .ok (.invokevirtual 276, 3) := by decide +kernel
theorem dX6_part0_121 : decode cX6_part0 121 = .ok (.ifCond .ne 5, 3) := by decide +kernel
theorem dX6_part0_124 : decode cX6_part0 124 = .ok (.iconst 0, 1) := by decide +kernel
theorem dX6_part0_125 : decode cX6_part0 125 = .ok (.ireturn, 1) := by decide +kernel
theorem dX6_part0_126 : decode cX6_part0 126 = .ok (.aload_n 0, 1) := by decide +kernel
theorem dX6_part0_127 : decode cX6_part0 127 = .ok (.dup, 1) := by decide +kernel
theorem dX6_part0_128 : decode cX6_part0 128 = .ok (.getfield 285, 3) := by decide +kernel
theorem dX6_part0_131 : decode cX6_part0 131 = .ok (.iconst 1, 1) := by decide +kernel
theorem dX6_part0_132 : decode cX6_part0 132 = .ok (.isub, 1) := by decide +kernel
theorem dX6_part0_133 : decode cX6_part0 133 = .ok (.putfield 285, 3) := by decide +kernel
theorem dX6_part0_136 : decode cX6_part0 136 = .ok (.aload_n 0, 1) := by decide +kernel
theorem dX6_part0_137 : decode cX6_part0 137 = .ok (.iconst 2, 1) := by decide +kernel
theorem dX6_part0_138 : decode cX6_part0 138 = .ok (.bipush 33, 2) := by decide +kernel
theorem dX6_part0_140 : decode cX6_part0 140 = .ok (.invokevirtual 263, 3) := by decide +kernel
theorem dX6_part0_143 : decode cX6_part0 143 = .ok (.iconst 1, 1) := by decide +kernel
theorem dX6_part0_144 : decode cX6_part0 144 = .ok (.ireturn, 1) := by decide +kernel
theorem dX6_part0_145 : decode cX6_part0 145 = .ok (.aload_n 0, 1) := by decide +kernel
theorem dX6_part0_146 : decode cX6_part0 146 = .ok (.bipush 40, 2) := by decide +kernel
theorem dX6_part0_148 : decode cX6_part0 148 = .ok (.invokevirtual 257, 3) := by decide +kernel
theorem dX6_part0_151 : decode cX6_part0 151 = .ok (.ifCond .eq 12, 3) := by decide +kernel
theorem dX6_part0_154 : decode cX6_part0 154 = .ok (.aload_n 0, 1) := by decide +kernel
theorem dX6_part0_155 : decode cX6_part0 155 = .ok (.getfield 288, 3) := by decide +kernel
theorem dX6_part0_158 : decode cX6_part0 158 = .ok (.bipush 8, 2) := by decide +kernel
theorem dX6_part0_160 : decode cX6_part0 160 = .ok (.if_icmp .ne 5, 3) := by decide +kernel
theorem dX6_part0_163 : decode cX6_part0 163 = .ok (.iconst 0, 1) := by decide +kernel
theorem dX6_part0_164 : decode cX6_part0 164 = .ok (.ireturn, 1) := by decide +kernel
theorem dX6_part0_165 : decode cX6_part0 165 = .ok (.aload_n 0, 1) := by decide +kernel
theorem dX6_part0_166 : decode cX6_part0 166 = .ok (.dup, 1) := by decide +kernel
theorem dX6_part0_167 : decode cX6_part0 167 = .ok (.getfield 288, 3) := by decide +kernel
theorem dX6_part0_170 : decode cX6_part0 170 = .ok (.iconst 1, 1) := by decide +kernel
theorem dX6_part0_171 : decode cX6_part0 171 = .ok (.iadd, 1) := by decide +kernel
theorem dX6_part0_172 : decode cX6_part0 172 = .ok (.putfield 288, 3) := by decide +kernel
theorem dX6_part0_175 : decode cX6_part0 175 = .ok (.aload_n 0, 1) := by decide +kernel
theorem dX6_part0_176 : decode cX6_part0 176 = .ok (.invokevirtual 260, 3) := by decide +kernel
theorem dX6_part0_179 : decode cX6_part0 179 = .ok (.aload_n 0, 1) := by decide +kernel
theorem dX6_part0_180 : decode cX6_part0 180 = .ok (.iload_n 1, 1) := by decide +kernel
theorem dX6_part0_181 : decode cX6_part0 181 = .ok (.invokevirtual 291, 3) := by decide +kernel
theorem dX6_part0_184 : decode cX6_part0 184 = .ok (.ifCond .eq 12, 3) := by decide +kernel
theorem dX6_part0_187 : decode cX6_part0 187 = .ok (.aload_n 0, 1) := by decide +kernel
theorem dX6_part0_188 : decode cX6_part0 188 = .ok (.bipush 41, 2) := by decide +kernel
theorem dX6_part0_190 : decode cX6_part0 190 = .ok (.invokevirtual 257, 3) := by decide +kernel
theorem dX6_part0_193 : decode cX6_part0 193 = .ok (.ifCond .ne 5, 3) := by decide +kernel
theorem dX6_part0_196 : decode cX6_part0 196 = .ok (.iconst 0, 1) := by decide +kernel
theorem dX6_part0_197 : decode cX6_part0 197 = .ok (.ireturn, 1) := by decide +kernel
theorem dX6_part0_198 : decode cX6_part0 198 = .ok (.aload_n 0, 1) := by decide +kernel
theorem dX6_part0_199 : decode cX6_part0 199 = .ok (.dup, 1) := by decide +kernel
theorem dX6_part0_200 : decode cX6_part0 200 = .ok (.getfield 288, 3) := by decide +kernel
theorem dX6_part0_203 : decode cX6_part0 203 = .ok (.iconst 1, 1) := by decide +kernel
theorem dX6_part0_204 : decode cX6_part0 204 = .ok (.isub, 1) := by decide +kernel
theorem dX6_part0_205 : decode cX6_part0 205 = .ok (.putfield 288, 3) := by decide +kernel
theorem dX6_part0_208 : decode cX6_part0 208 = .ok (.aload_n 0, 1) := by decide +kernel
theorem dX6_part0_209 : decode cX6_part0 209 = .ok (.invokevirtual 260, 3) := by decide +kernel
theorem dX6_part0_212 : decode cX6_part0 212 = .ok (.iconst 1, 1) := by decide +kernel
theorem dX6_part0_213 : decode cX6_part0 213 = .ok (.ireturn, 1) := by decide +kernel
theorem dX6_parse_0 : decode cX6_parse 0 = .ok (.aload_n 0, 1) := by decide +kernel
theorem dX6_parse_1 : decode cX6_parse 1 = .ok (.iconst 0, 1) := by decide +kernel
theorem dX6_parse_2 : decode cX6_parse 2 = .ok (.putfield 223, 3) := by decide +kernel
theorem dX6_parse_5 : decode cX6_parse 5 = .ok (.aload_n 0, 1) := by decide +kernel
theorem dX6_parse_6 : decode cX6_parse 6 = .ok (.iconst 3, 1) := by decide +kernel
theorem dX6_parse_7 : decode cX6_parse 7 = .ok (.putfield 226, 3) := by decide +kernel
theorem dX6_parse_10 : decode cX6_parse 10 = .ok (.aload_n 0, 1) := by decide +kernel
theorem dX6_parse_11 : decode cX6_parse 11 = .ok (.iconst 0, 1) := by decide +kernel
theorem dX6_parse_12 : decode cX6_parse 12 = .ok (.putfield 288, 3) := by decide +kernel
theorem dX6_parse_15 : decode cX6_parse 15 = .ok (.aload_n 0, 1) := by decide +kernel
theorem dX6_parse_16 : decode cX6_parse 16 = .ok (.iconst 0, 1) := by decide +kernel
theorem dX6_parse_17 : decode cX6_parse 17 = .ok (.putfield 285, 3) := by decide +kernel
theorem dX6_parse_20 : decode cX6_parse 20 = .ok (.aload_n 0, 1) := by decide +kernel
theorem dX6_parse_21 : decode cX6_parse 21 = .ok (.iconst 0, 1) := by decide +kernel
theorem dX6_parse_22 : decode cX6_parse 22 = .ok (.putfield 251, 3) := by decide +kernel
theorem dX6_parse_25 : decode cX6_parse 25 = .ok (.aload_n 0, 1) := by decide +kernel
theorem dX6_parse_26 : decode cX6_parse 26 = .ok (.iconst 0, 1) := by decide +kernel
theorem dX6_parse_27 : decode cX6_parse 27 = .ok (.putfield 279, 3) := by decide +kernel
theorem dX6_parse_30 : decode cX6_parse 30 = .ok (.aload_n 0, 1) := by decide +kernel
theorem dX6_parse_31 : decode cX6_parse 31 = .ok (.aload_n 0, 1) := by decide +kernel
theorem dX6_parse_32 : decode cX6_parse 32 = .ok (.getfield 7, 3) := by decide +kernel
theorem dX6_parse_35 : decode cX6_parse 35 = .ok (.iconst 1, 1) := by decide +kernel
theorem dX6_parse_36 : decode cX6_parse 36 = .ok (.iaload, 1) := by decide +kernel
theorem dX6_parse_37 : decode cX6_parse 37 = .ok (.bipush 14, 2) := by decide +kernel
theorem dX6_parse_39 : decode cX6_parse 39 = .ok (.if_icmp .ge 18, 3) := by decide +kernel
theorem dX6_parse_42 : decode cX6_parse 42 = .ok (.aload_n 0, 1) := by decide +kernel
theorem dX6_parse_43 : decode cX6_parse 43 = .ok (.aload_n 0, 1) := by decide +kernel
theorem dX6_parse_44 : decode cX6_parse 44 = .ok (.getfield 7, 3) := by decide +kernel
theorem dX6_parse_47 : decode cX6_parse 47 = .ok (.iconst 1, 1) := by decide +kernel
theorem dX6_parse_48 : decode cX6_parse 48 = .ok (.iaload, 1) := by decide +kernel
theorem dX6_parse_49 : decode cX6_parse 49 = .ok (.invokevirtual 294, 3) := by decide +kernel
theorem dX6_parse_52 : decode cX6_parse 52 = .ok (.iconst 4, 1) := by decide +kernel
theorem dX6_parse_53 : decode cX6_parse 53 = .ok (.iadd, 1) := by decide +kernel
theorem dX6_parse_54 : decode cX6_parse 54 = .ok (.goto 6, 3) := by decide +kernel
theorem dX6_parse_57 : decode cX6_parse 57 = .ok (.sipush 2871, 3) := by decide +kernel
theorem dX6_parse_60 : decode cX6_parse 60 = .ok (.putfield 248, 3) := by decide +kernel
theorem dX6_parse_63 : decode cX6_parse 63 = .ok (.aload_n 0, 1) := by decide +kernel
theorem dX6_parse_64 : decode cX6_parse 64 = .ok (.invokevirtual 260, 3) := by decide +kernel
theorem dX6_parse_67 : decode cX6_parse 67 = .ok (.aload_n 0, 1) := by decide +kernel
theorem dX6_parse_68 : decode cX6_parse 68 = .ok (.invokevirtual 297, 3) := by decide +kernel
theorem dX6_parse_71 : decode cX6_parse 71 = .ok (.istore_n 1, 1) := by decide +kernel
theorem dX6_parse_72 : decode cX6_parse 72 = .ok (.iload_n 1, 1) := by decide +kernel
theorem dX6_parse_73 : decode cX6_parse 73 = .ok (.ifCond .lt 7, 3) := by decide +kernel
theorem dX6_parse_76 : decode cX6_parse 76 = .ok (.iconst 1, 1) := by decide +kernel
theorem dX6_parse_77 : decode cX6_parse 77 = .ok (.goto 4, 3) := by decide +kernel
theorem dX6_parse_80 : decode cX6_parse 80 = .ok (.iconst 0, 1) := by decide +kernel
theorem dX6_parse_81 : decode cX6_parse 81 = .ok (.istore_n 2, 1) := by decide +kernel
theorem dX6_parse_82 : decode cX6_parse 82 = .ok (.iload_n 2, 1) := by decide +kernel
theorem dX6_parse_83 : decode cX6_parse 83 = .ok (.ifCond .eq 28, 3) := by decide +kernel
theorem dX6_parse_86 : decode cX6_parse 86 = .ok (.aload_n 0, 1) := by decide +kernel
theorem dX6_parse_87 : decode cX6_parse 87 = .ok (.invokevirtual 260, 3) := by decide +kernel
theorem dX6_parse_90 : decode cX6_parse 90 = .ok (.aload_n 0, 1) := by decide +kernel
theorem dX6_parse_91 : decode cX6_parse 91 = .ok (.iload_n 1, 1) := by decide +kernel
theorem dX6_parse_92 : decode cX6_parse 92 = .ok (.invokevirtual 291, 3) := by decide +kernel
theorem dX6_parse_95 : decode cX6_parse 95 = .ok (.ifCond .eq 14, 3) := by decide +kernel
theorem dX6_parse_98 : decode cX6_parse 98 = .ok (.aload_n 0, 1) := by decide +kernel
theorem dX6_parse_99 : decode cX6_parse 99 = .ok (.getfield 226, 3) := by decide +kernel
theorem dX6_parse_102 : decode cX6_parse 102 = .ok (.ifCond .ne 7, 3) := by decide +kernel
theorem dX6_parse_105 : decode cX6_parse 105 = .ok (.iconst 1, 1) := by decide +kernel
theorem dX6_parse_106 : decode cX6_parse 106 = .ok (.goto 4, 3) := by decide +kernel
theorem dX6_parse_109 : decode cX6_parse 109 = .ok (.iconst 0, 1) := by decide +kernel
theorem dX6_parse_110 : decode cX6_parse 110 = .ok (.istore_n 2, 1) := by decide +kernel
theorem dX6_parse_111 : decode cX6_parse 111 = .ok (.aload_n 0, 1) := by decide +kernel
theorem dX6_parse_112 : decode cX6_parse 112 = .ok (.iconst 0, 1) := by decide +kernel
theorem dX6_parse_113 : decode cX6_parse 113 = .ok (.putfield 211, 3) := by decide +kernel
theorem dX6_parse_116 : decode cX6_parse 116 = .ok (.iload_n 2, 1) := by decide +kernel
theorem dX6_parse_117 : decode cX6_parse 117 = .ok (.ifCond .eq 7, 3) := by decide +kernel
theorem dX6_parse_120 : decode cX6_parse 120 = .ok (.iload_n 1, 1) := by decide +kernel
theorem dX6_parse_121 : decode cX6_parse 121 = .ok (.goto 4, 3) := by decide +kernel
theorem dX6_parse_124 : decode cX6_parse 124 = .ok (.iconst (-1), 1) := by decide +kernel
theorem dX6_parse_125 : decode cX6_parse 125 = .ok (.ireturn, 1) := by decide +kernel
theorem dX6_text_0 : decode cX6_text 0 = .ok (.aload_n 0, 1) := by decide +kernel
theorem dX6_text_1 : decode cX6_text 1 = .ok (.invokevirtual 300, 3) := by decide +kernel
theorem dX6_text_4 : decode cX6_text 4 = .ok (.istore_n 1, 1) := by decide +kernel
theorem dX6_text_5 : decode cX6_text 5 = .ok (.iload_n 1, 1) := by decide +kernel
theorem dX6_text_6 : decode cX6_text 6 = .ok (.ifCond .ge 11, 3) := by decide +kernel
theorem dX6_text_9 : decode cX6_text 9 = .ok (.bipush (-100), 2) := by decide +kernel
theorem dX6_text_11 : decode cX6_text 11 = .ok (.aload_n 0, 1) := by decide +kernel
theorem dX6_text_12 : decode cX6_text 12 = .ok (.getfield 229, 3) := by decide +kernel
theorem dX6_text_15 : decode cX6_text 15 = .ok (.isub, 1) := by decide +kernel
theorem dX6_text_16 : decode cX6_text 16 = .ok (.ireturn, 1) := by decide +kernel
theorem dX6_text_17 : decode cX6_text 17 = .ok (.aload_n 0, 1) := by decide +kernel
theorem dX6_text_18 : decode cX6_text 18 = .ok (.getfield 7, 3) := by decide +kernel
theorem dX6_text_21 : decode cX6_text 21 = .ok (.iconst 1, 1) := by decide +kernel
theorem dX6_text_22 : decode cX6_text 22 = .ok (.iaload, 1) := by decide +kernel
theorem dX6_text_23 : decode cX6_text 23 = .ok (.bipush 14, 2) := by decide +kernel
theorem dX6_text_25 : decode cX6_text 25 = .ok (.if_icmp .ne 6, 3) := by decide +kernel
theorem dX6_text_28 : decode cX6_text 28 = .ok (.ldc 111, 2) := by decide +kernel
theorem dX6_text_30 : decode cX6_text 30 = .ok (.ireturn, 1) := by decide +kernel
theorem dX6_text_31 : decode cX6_text 31 = .ok (.aload_n 0, 1) := by decide +kernel
theorem dX6_text_32 : decode cX6_text 32 = .ok (.aload_n 0, 1) := by decide +kernel
theorem dX6_text_33 : decode cX6_text 33 = .ok (.getfield 7, 3) := by decide +kernel
theorem dX6_text_36 : decode cX6_text 36 = .ok (.iconst 1, 1) := by decide +kernel
theorem dX6_text_37 : decode cX6_text 37 = .ok (.iaload, 1) := by decide +kernel
theorem dX6_text_38 : decode cX6_text 38 = .ok (.invokevirtual 294, 3) := by decide +kernel
theorem dX6_text_41 : decode cX6_text 41 = .ok (.istore_n 2, 1) := by decide +kernel
theorem dX6_text_42 : decode cX6_text 42 = .ok (.aload_n 0, 1) := by decide +kernel
theorem dX6_text_43 : decode cX6_text 43 = .ok (.getfield 7, 3) := by decide +kernel
theorem dX6_text_46 : decode cX6_text 46 = .ok (.iload_n 2, 1) := by decide +kernel
theorem dX6_text_47 : decode cX6_text 47 = .ok (.iconst 0, 1) := by decide +kernel
theorem dX6_text_48 : decode cX6_text 48 = .ok (.iadd, 1) := by decide +kernel
theorem dX6_text_49 : decode cX6_text 49 = .ok (.iload_n 1, 1) := by decide +kernel
theorem dX6_text_50 : decode cX6_text 50 = .ok (.iastore, 1) := by decide +kernel
theorem dX6_text_51 : decode cX6_text 51 = .ok (.aload_n 0, 1) := by decide +kernel
theorem dX6_text_52 : decode cX6_text 52 = .ok (.getfield 7, 3) := by decide +kernel
theorem dX6_text_55 : decode cX6_text 55 = .ok (.iload_n 2, 1) := by decide +kernel
theorem dX6_text_56 : decode cX6_text 56 = .ok (.iconst 1, 1) := by decide +kernel
theorem dX6_text_57 : decode cX6_text 57 = .ok (.iadd, 1) := by decide +kernel
theorem dX6_text_58 : decode cX6_text 58 = .ok (.aload_n 0, 1) := by decide +kernel
theorem dX6_text_59 : decode cX6_text 59 = .ok (.getfield 279, 3) := by decide +kernel
theorem dX6_text_62 : decode cX6_text 62 = .ok (.iastore, 1) := by decide +kernel
theorem dX6_text_63 : decode cX6_text 63 = .ok (.aload_n 0, 1) := by decide +kernel
theorem dX6_text_64 : decode cX6_text 64 = .ok (.getfield 7, 3) := by decide +kernel
theorem dX6_text_67 : decode cX6_text 67 = .ok (.iload_n 2, 1) := by decide +kernel
theorem dX6_text_68 : decode cX6_text 68 = .ok (.iconst 2, 1) := by decide +kernel
theorem dX6_text_69 : decode cX6_text 69 = .ok (.iadd, 1) := by decide +kernel
theorem dX6_text_70 : decode cX6_text 70 = .ok (.aload_n 0, 1) := by decide +kernel
theorem dX6_text_71 : decode cX6_text 71 = .ok (.getfield 251, 3) := by decide +kernel
theorem dX6_text_74 : decode cX6_text 74 = .ok (.iastore, 1) := by decide +kernel
theorem dX6_text_75 : decode cX6_text 75 = .ok (.aload_n 0, 1) := by decide +kernel
theorem dX6_text_76 : decode cX6_text 76 = .ok (.getfield 7, 3) := by decide +kernel
theorem dX6_text_79 : decode cX6_text 79 = .ok (.iconst 1, 1) := by decide +kernel
theorem dX6_text_80 : decode cX6_text 80 = .ok (.dup2, 1) := by decide +kernel
theorem dX6_text_81 : decode cX6_text 81 = .ok (.iaload, 1) := by decide +kernel
theorem dX6_text_82 : decode cX6_text 82 = .ok (.iconst 1, 1) := by decide +kernel
theorem dX6_text_83 : decode cX6_text 83 = .ok (.iadd, 1) := by decide +kernel
theorem dX6_text_84 : decode cX6_text 84 = .ok (.iastore, 1) := by decide +kernel
theorem dX6_text_85 : decode cX6_text 85 = .ok (.aload_n 0, 1) := by decide +kernel
theorem dX6_text_86 : decode cX6_text 86 = .ok (.getfield 7, 3) := by decide +kernel
theorem dX6_text_89 : decode cX6_text 89 = .ok (.iconst 1, 1) := by decide +kernel
theorem dX6_text_90 : decode cX6_text 90 = .ok (.iaload, 1) := by decide +kernel
theorem dX6_text_91 : decode cX6_text 91 = .ok (.iconst 1, 1) := by decide +kernel
theorem dX6_text_92 : decode cX6_text 92 = .ok (.isub, 1) := by decide +kernel
theorem dX6_text_93 : decode cX6_text 93 = .ok (.ireturn, 1) := by decide +kernel
theorem dX6_textTold_0 : decode cX6_textTold 0 = .ok (.aload_n 0, 1) := by decide +kernel
theorem dX6_textTold_1 : decode cX6_textTold 1 = .ok (.iload_n 1, 1) := by decide +kernel
theorem dX6_textTold_2 : decode cX6_textTold 2 = .ok (.invokevirtual 303, 3) := by decide +kernel
theorem dX6_textTold_5 : decode cX6_textTold 5 = .ok (.ifCond .eq 13, 3) := by decide +kernel
theorem dX6_textTold_8 : decode cX6_textTold 8 = .ok (.iload_n 2, 1) := by decide +kernel
theorem dX6_textTold_9 : decode cX6_textTold 9 = .ok (.i2l, 1) := by decide +kernel
theorem dX6_textTold_10 : decode cX6_textTold 10 = .ok (.lconst 0, 1) := by decide +kernel
theorem dX6_textTold_11 : decode cX6_textTold 11 = .ok (.lconst 1, 1) := by decide +kernel
theorem dX6_textTold_12 : decode cX6_textTold 12 = .ok (.invokestatic 65, 3) := by decide +kernel
theorem dX6_textTold_15 : decode cX6_textTold 15 = .ok (.ifCond .ne 6, 3) := by decide +kernel
theorem dX6_textTold_18 : decode cX6_textTold 18 = .ok (.ldc 110, 2) := by decide +kernel
theorem dX6_textTold_20 : decode cX6_textTold 20 = .ok (.ireturn, 1) := by decide +kernel
theorem dX6_textTold_21 : decode cX6_textTold 21 = .ok (.aload_n 0, 1) := by decide +kernel
theorem dX6_textTold_22 : decode cX6_textTold 22 = .ok (.getfield 7, 3) := by decide +kernel
theorem dX6_textTold_25 : decode cX6_textTold 25 = .ok (.aload_n 0, 1) := by decide +kernel
theorem dX6_textTold_26 : decode cX6_textTold 26 = .ok (.iload_n 1, 1) := by decide +kernel
theorem dX6_textTold_27 : decode cX6_textTold 27 = .ok (.invokevirtual 294, 3) := by decide +kernel
theorem dX6_textTold_30 : decode cX6_textTold 30 = .ok (.iload_n 2, 1) := by decide +kernel
theorem dX6_textTold_31 : decode cX6_textTold 31 = .ok (.iadd, 1) := by decide +kernel
theorem dX6_textTold_32 : decode cX6_textTold 32 = .ok (.iaload, 1) := by decide +kernel
theorem dX6_textTold_33 : decode cX6_textTold 33 = .ok (.ireturn, 1) := by decide +kernel
theorem dX6_counts_0 : decode cX6_counts 0 = .ok (.iconst (-1), 1) := by decide +kernel
theorem dX6_counts_1 : decode cX6_counts 1 = .ok (.istore_n 2, 1) := by decide +kernel
theorem dX6_counts_2 : decode cX6_counts 2 = .ok (.iconst 0, 1) := by decide +kernel
theorem dX6_counts_3 : decode cX6_counts 3 = .ok (.istore_n 3, 1) := by decide +kernel
theorem dX6_counts_4 : decode cX6_counts 4 = .ok (.iload_n 3, 1) := by decide +kernel
theorem dX6_counts_5 : decode cX6_counts 5 = .ok (.aload_n 0, 1) := by decide +kernel
theorem dX6_counts_6 : decode cX6_counts 6 = .ok (.getfield 7, 3) := by decide +kernel
theorem dX6_counts_9 : decode cX6_counts 9 = .ok (.iconst 1, 1) := by decide +kernel
theorem dX6_counts_10 : decode cX6_counts 10 = .ok (.iaload, 1) := by decide +kernel
theorem dX6_counts_11 : decode cX6_counts 11 = .ok (.if_icmp .ge 29, 3) := by decide +kernel
theorem dX6_counts_14 : decode cX6_counts 14 = .ok (.aload_n 0, 1) := by decide +kernel
theorem dX6_counts_15 : decode cX6_counts 15 = .ok (.getfield 7, 3) := by decide +kernel
theorem dX6_counts_18 : decode cX6_counts 18 = .ok (.aload_n 0, 1) := by decide +kernel
theorem dX6_counts_19 : decode cX6_counts 19 = .ok (.iload_n 3, 1) := by decide +kernel
theorem dX6_counts_20 : decode cX6_counts 20 = .ok (.invokevirtual 294, 3) := by decide +kernel
theorem dX6_counts_23 : decode cX6_counts 23 = .ok (.iaload, 1) := by decide +kernel
theorem dX6_counts_24 : decode cX6_counts 24 = .ok (.iload_n 1, 1) := by decide +kernel
theorem dX6_counts_25 : decode cX6_counts 25 = .ok (.if_icmp .ne 7, 3) := by decide +kernel
theorem dX6_counts_28 : decode cX6_counts 28 = .ok (.iload_n 3, 1) := by decide +kernel
theorem dX6_counts_29 : decode cX6_counts 29 = .ok (.goto 4, 3) := by decide +kernel
theorem dX6_counts_32 : decode cX6_counts 32 = .ok (.iload_n 2, 1) := by decide +kernel
theorem dX6_counts_33 : decode cX6_counts 33 = .ok (.istore_n 2, 1) := by decide +kernel
theorem dX6_counts_34 : decode cX6_counts 34 = .ok (.iinc 3 1, 3) := by decide +kernel
theorem dX6_counts_37 : decode cX6_counts 37 = .ok (.goto (-33), 3) := by decide +kernel
theorem dX6_counts_40 : decode cX6_counts 40 = .ok (.iload_n 2, 1) := by decide +kernel
theorem dX6_counts_41 : decode cX6_counts 41 = .ok (.ireturn, 1) := by decide +kernel
theorem dX6_why_0 : decode cX6_why 0 = .ok (.iload_n 1, 1) := by decide +kernel
theorem dX6_why_1 : decode cX6_why 1 = .ok (.i2l, 1) := by decide +kernel
theorem dX6_why_2 : decode cX6_why 2 = .ok (.lconst 0, 1) := by decide +kernel
theorem dX6_why_3 : decode cX6_why 3 = .ok (.ldc2_w 148, 3) := by decide +kernel
theorem dX6_why_6 : decode cX6_why 6 = .ok (.invokestatic 65, 3) := by decide +kernel
theorem dX6_why_9 : decode cX6_why 9 = .ok (.ifCond .eq 14, 3) := by decide +kernel
theorem dX6_why_12 : decode cX6_why 12 = .ok (.aload_n 0, 1) := by decide +kernel
theorem dX6_why_13 : decode cX6_why 13 = .ok (.iload_n 1, 1) := by decide +kernel
theorem dX6_why_14 : decode cX6_why 14 = .ok (.invokevirtual 76, 3) := by decide +kernel
theorem dX6_why_17 : decode cX6_why 17 = .ok (.invokestatic 306, 3) := by decide +kernel
theorem dX6_why_20 : decode cX6_why 20 = .ok (.goto 5, 3) := by decide +kernel
theorem dX6_why_23 : decode cX6_why 23 = .ok (.ldc 110, 2) := by decide +kernel
theorem dX6_why_25 : decode cX6_why 25 = .ok (.ireturn, 1) := by decide +kernel
theorem dX6_joined_0 : decode cX6_joined 0 = .ok (.iload_n 0, 1) := by decide +kernel
theorem dX6_joined_1 : decode cX6_joined 1 = .ok (.tableswitch 196 38 62 #[182, 196, 196, 196, 123, 115, 196, 119, 196, 127, 196, 196, 196, 196, 196, 196, 196, 196, 196, 196, 196, 196, 149, 171, 160], 115) := by decide +kernel
theorem dX6_joined_116 : decode cX6_joined 116 = .ok (.iload_n 1, 1) := by decide +kernel
theorem dX6_joined_117 : decode cX6_joined 117 = .ok (.iload_n 2, 1) := by decide +kernel
theorem dX6_joined_118 : decode cX6_joined 118 = .ok (.iadd, 1) := by decide +kernel
theorem dX6_joined_119 : decode cX6_joined 119 = .ok (.ireturn, 1) := by decide +kernel
theorem dX6_joined_120 : decode cX6_joined 120 = .ok (.iload_n 1, 1) := by decide +kernel
theorem dX6_joined_121 : decode cX6_joined 121 = .ok (.iload_n 2, 1) := by decide +kernel
theorem dX6_joined_122 : decode cX6_joined 122 = .ok (.isub, 1) := by decide +kernel
theorem dX6_joined_123 : decode cX6_joined 123 = .ok (.ireturn, 1) := by decide +kernel
theorem dX6_joined_124 : decode cX6_joined 124 = .ok (.iload_n 1, 1) := by decide +kernel
theorem dX6_joined_125 : decode cX6_joined 125 = .ok (.iload_n 2, 1) := by decide +kernel
theorem dX6_joined_126 : decode cX6_joined 126 = .ok (.imul, 1) := by decide +kernel
theorem dX6_joined_127 : decode cX6_joined 127 = .ok (.ireturn, 1) := by decide +kernel
theorem dX6_joined_128 : decode cX6_joined 128 = .ok (.iload_n 2, 1) := by decide +kernel
theorem dX6_joined_129 : decode cX6_joined 129 = .ok (.ifCond .ne 7, 3) := by decide +kernel
theorem dX6_joined_132 : decode cX6_joined 132 = .ok (.iconst 0, 1) := by decide +kernel
theorem dX6_joined_133 : decode cX6_joined 133 = .ok (.goto 16, 3) := by decide +kernel
theorem dX6_joined_136 : decode cX6_joined 136 = .ok (.iload_n 2, 1) := by decide +kernel
theorem dX6_joined_137 : decode cX6_joined 137 = .ok (.iconst (-1), 1) := by decide +kernel
theorem dX6_joined_138 : decode cX6_joined 138 = .ok (.if_icmp .ne 8, 3) := by decide +kernel
theorem dX6_joined_141 : decode cX6_joined 141 = .ok (.iload_n 1, 1) := by decide +kernel
theorem dX6_joined_142 : decode cX6_joined 142 = .ok (.ineg, 1) := by decide +kernel
theorem dX6_joined_143 : decode cX6_joined 143 = .ok (.goto 6, 3) := by decide +kernel
theorem dX6_joined_146 : decode cX6_joined 146 = .ok (.iload_n 1, 1) := by decide +kernel
theorem dX6_joined_147 : decode cX6_joined 147 = .ok (.iload_n 2, 1) := by decide +kernel
theorem dX6_joined_148 : decode cX6_joined 148 = .ok (.idiv, 1) := by decide +kernel
theorem dX6_joined_149 : decode cX6_joined 149 = .ok (.ireturn, 1) := by decide +kernel
theorem dX6_joined_150 : decode cX6_joined 150 = .ok (.iload_n 1, 1) := by decide +kernel
theorem dX6_joined_151 : decode cX6_joined 151 = .ok (.iload_n 2, 1) := by decide +kernel
theorem dX6_joined_152 : decode cX6_joined 152 = .ok (.if_icmp .ge 7, 3) := by decide +kernel
theorem dX6_joined_155 : decode cX6_joined 155 = .ok (.iconst 1, 1) := by decide +kernel
theorem dX6_joined_156 : decode cX6_joined 156 = .ok (.goto 4, 3) := by decide +kernel
theorem dX6_joined_159 : decode cX6_joined 159 = .ok (.iconst 0, 1) := by decide +kernel
theorem dX6_joined_160 : decode cX6_joined 160 = .ok (.ireturn, 1) := by decide +kernel
theorem dX6_joined_161 : decode cX6_joined 161 = .ok (.iload_n 1, 1) := by decide +kernel
theorem dX6_joined_162 : decode cX6_joined 162 = .ok (.iload_n 2, 1) := by decide +kernel
theorem dX6_joined_163 : decode cX6_joined 163 = .ok (.if_icmp .le 7, 3) := by decide +kernel
theorem dX6_joined_166 : decode cX6_joined 166 = .ok (.iconst 1, 1) := by decide +kernel
theorem dX6_joined_167 : decode cX6_joined 167 = .ok (.goto 4, 3) := by decide +kernel
theorem dX6_joined_170 : decode cX6_joined 170 = .ok (.iconst 0, 1) := by decide +kernel
theorem dX6_joined_171 : decode cX6_joined 171 = .ok (.ireturn, 1) := by decide +kernel
theorem dX6_joined_172 : decode cX6_joined 172 = .ok (.iload_n 1, 1) := by decide +kernel
theorem dX6_joined_173 : decode cX6_joined 173 = .ok (.iload_n 2, 1) := by decide +kernel
theorem dX6_joined_174 : decode cX6_joined 174 = .ok (.if_icmp .ne 7, 3) := by decide +kernel
theorem dX6_joined_177 : decode cX6_joined 177 = .ok (.iconst 1, 1) := by decide +kernel
theorem dX6_joined_178 : decode cX6_joined 178 = .ok (.goto 4, 3) := by decide +kernel
theorem dX6_joined_181 : decode cX6_joined 181 = .ok (.iconst 0, 1) := by decide +kernel
theorem dX6_joined_182 : decode cX6_joined 182 = .ok (.ireturn, 1) := by decide +kernel
theorem dX6_joined_183 : decode cX6_joined 183 = .ok (.iload_n 1, 1) := by decide +kernel
theorem dX6_joined_184 : decode cX6_joined 184 = .ok (.ifCond .eq 11, 3) := by decide +kernel
theorem dX6_joined_187 : decode cX6_joined 187 = .ok (.iload_n 2, 1) := by decide +kernel
theorem dX6_joined_188 : decode cX6_joined 188 = .ok (.ifCond .eq 7, 3) := by decide +kernel
theorem dX6_joined_191 : decode cX6_joined 191 = .ok (.iconst 1, 1) := by decide +kernel
theorem dX6_joined_192 : decode cX6_joined 192 = .ok (.goto 4, 3) := by decide +kernel
theorem dX6_joined_195 : decode cX6_joined 195 = .ok (.iconst 0, 1) := by decide +kernel
theorem dX6_joined_196 : decode cX6_joined 196 = .ok (.ireturn, 1) := by decide +kernel
theorem dX6_joined_197 : decode cX6_joined 197 = .ok (.iload_n 1, 1) := by decide +kernel
theorem dX6_joined_198 : decode cX6_joined 198 = .ok (.ifCond .ne 7, 3) := by decide +kernel
theorem dX6_joined_201 : decode cX6_joined 201 = .ok (.iload_n 2, 1) := by decide +kernel
theorem dX6_joined_202 : decode cX6_joined 202 = .ok (.ifCond .eq 7, 3) := by decide +kernel
theorem dX6_joined_205 : decode cX6_joined 205 = .ok (.iconst 1, 1) := by decide +kernel
theorem dX6_joined_206 : decode cX6_joined 206 = .ok (.goto 4, 3) := by decide +kernel
theorem dX6_joined_209 : decode cX6_joined 209 = .ok (.iconst 0, 1) := by decide +kernel
theorem dX6_joined_210 : decode cX6_joined 210 = .ok (.ireturn, 1) := by decide +kernel
theorem dX6_worked_0 : decode cX6_worked 0 = .ok (.iconst 0, 1) := by decide +kernel
theorem dX6_worked_1 : decode cX6_worked 1 = .ok (.istore_n 2, 1) := by decide +kernel
theorem dX6_worked_2 : decode cX6_worked 2 = .ok (.iconst 0, 1) := by decide +kernel
theorem dX6_worked_3 : decode cX6_worked 3 = .ok (.istore_n 3, 1) := by decide +kernel
theorem dX6_worked_4 : decode cX6_worked 4 = .ok (.iload_n 3, 1) := by decide +kernel
theorem dX6_worked_5 : decode cX6_worked 5 = .ok (.aload_n 0, 1) := by decide +kernel
theorem dX6_worked_6 : decode cX6_worked 6 = .ok (.getfield 7, 3) := by decide +kernel
theorem dX6_worked_9 : decode cX6_worked 9 = .ok (.aload_n 0, 1) := by decide +kernel
theorem dX6_worked_10 : decode cX6_worked 10 = .ok (.iload_n 1, 1) := by decide +kernel
theorem dX6_worked_11 : decode cX6_worked 11 = .ok (.invokevirtual 294, 3) := by decide +kernel
theorem dX6_worked_14 : decode cX6_worked 14 = .ok (.iconst 2, 1) := by decide +kernel
theorem dX6_worked_15 : decode cX6_worked 15 = .ok (.iadd, 1) := by decide +kernel
theorem dX6_worked_16 : decode cX6_worked 16 = .ok (.iaload, 1) := by decide +kernel
theorem dX6_worked_17 : decode cX6_worked 17 = .ok (.if_icmp .ge 146, 3) := by decide +kernel
theorem dX6_worked_20 : decode cX6_worked 20 = .ok (.aload_n 0, 1) := by decide +kernel
theorem dX6_worked_21 : decode cX6_worked 21 = .ok (.getfield 7, 3) := by decide +kernel
theorem dX6_worked_24 : decode cX6_worked 24 = .ok (.aload_n 0, 1) := by decide +kernel
theorem dX6_worked_25 : decode cX6_worked 25 = .ok (.iload_n 1, 1) := by decide +kernel
theorem dX6_worked_26 : decode cX6_worked 26 = .ok (.invokevirtual 294, 3) := by decide +kernel
theorem dX6_worked_29 : decode cX6_worked 29 = .ok (.iconst 4, 1) := by decide +kernel
theorem dX6_worked_30 : decode cX6_worked 30 = .ok (.iadd, 1) := by decide +kernel
theorem dX6_worked_31 : decode cX6_worked 31 = .ok (.iconst 2, 1) := by decide +kernel
theorem dX6_worked_32 : decode cX6_worked 32 = .ok (.iload_n 3, 1) := by decide +kernel
theorem dX6_worked_33 : decode cX6_worked 33 = .ok (.imul, 1) := by decide +kernel
theorem dX6_worked_34 : decode cX6_worked 34 = .ok (.iadd, 1) := by decide +kernel
theorem dX6_worked_35 : decode cX6_worked 35 = .ok (.iaload, 1) := by decide +kernel
theorem dX6_worked_36 : decode cX6_worked 36 = .ok (.istore 4, 2) := by decide +kernel
theorem dX6_worked_38 : decode cX6_worked 38 = .ok (.aload_n 0, 1) := by decide +kernel
theorem dX6_worked_39 : decode cX6_worked 39 = .ok (.getfield 7, 3) := by decide +kernel
theorem dX6_worked_42 : decode cX6_worked 42 = .ok (.aload_n 0, 1) := by decide +kernel
theorem dX6_worked_43 : decode cX6_worked 43 = .ok (.iload_n 1, 1) := by decide +kernel
theorem dX6_worked_44 : decode cX6_worked 44 = .ok (.invokevirtual 294, 3) := by decide +kernel
theorem dX6_worked_47 : decode cX6_worked 47 = .ok (.iconst 4, 1) := by decide +kernel
theorem dX6_worked_48 : decode cX6_worked 48 = .ok (.iadd, 1) := by decide +kernel
theorem dX6_worked_49 : decode cX6_worked 49 = .ok (.iconst 2, 1) := by decide +kernel
theorem dX6_worked_50 : decode cX6_worked 50 = .ok (.iload_n 3, 1) := by decide +kernel
theorem dX6_worked_51 : decode cX6_worked 51 = .ok (.imul, 1) := by decide +kernel
theorem dX6_worked_52 : decode cX6_worked 52 = .ok (.iadd, 1) := by decide +kernel
theorem dX6_worked_53 : decode cX6_worked 53 = .ok (.iconst 1, 1) := by decide +kernel
theorem dX6_worked_54 : decode cX6_worked 54 = .ok (.iadd, 1) := by decide +kernel
theorem dX6_worked_55 : decode cX6_worked 55 = .ok (.iaload, 1) := by decide +kernel
theorem dX6_worked_56 : decode cX6_worked 56 = .ok (.istore 5, 2) := by decide +kernel
theorem dX6_worked_58 : decode cX6_worked 58 = .ok (.iload 4, 2) := by decide +kernel
theorem dX6_worked_60 : decode cX6_worked 60 = .ok (.iconst 2, 1) := by decide +kernel
theorem dX6_worked_61 : decode cX6_worked 61 = .ok (.if_icmp .eq 32, 3) := by decide +kernel
theorem dX6_worked_64 : decode cX6_worked 64 = .ok (.aload_n 0, 1) := by decide +kernel
theorem dX6_worked_65 : decode cX6_worked 65 = .ok (.getfield 52, 3) := by decide +kernel
theorem dX6_worked_68 : decode cX6_worked 68 = .ok (.iload_n 2, 1) := by decide +kernel
theorem dX6_worked_69 : decode cX6_worked 69 = .ok (.iload 4, 2) := by decide +kernel
theorem dX6_worked_71 : decode cX6_worked 71 = .ok (.ifCond .ne 8, 3) := by decide +kernel
theorem dX6_worked_74 : decode cX6_worked 74 = .ok (.iload 5, 2) := by decide +kernel
theorem dX6_worked_76 : decode cX6_worked 76 = .ok (.goto 10, 3) := by decide +kernel
theorem dX6_worked_79 : decode cX6_worked 79 = .ok (.aload_n 0, 1) := by decide +kernel
theorem dX6_worked_80 : decode cX6_worked 80 = .ok (.getfield 49, 3) := by decide +kernel
theorem dX6_worked_83 : decode cX6_worked 83 = .ok (.iload 5, 2) := by decide +kernel
theorem dX6_worked_85 : decode cX6_worked 85 = .ok (.iaload, 1) := by decide +kernel
theorem dX6_worked_86 : decode cX6_worked 86 = .ok (.iastore, 1) := by decide +kernel
theorem dX6_worked_87 : decode cX6_worked 87 = .ok (.iinc 2 1, 3) := by decide +kernel
theorem dX6_worked_90 : decode cX6_worked 90 = .ok (.goto 67, 3) := by decide +kernel
theorem dX6_worked_93 : decode cX6_worked 93 = .ok (.iload 5, 2) := by decide +kernel
theorem dX6_worked_95 : decode cX6_worked 95 = .ok (.bipush 33, 2) := by decide +kernel
theorem dX6_worked_97 : decode cX6_worked 97 = .ok (.if_icmp .ne 30, 3) := by decide +kernel
theorem dX6_worked_100 : decode cX6_worked 100 = .ok (.aload_n 0, 1) := by decide +kernel
theorem dX6_worked_101 : decode cX6_worked 101 = .ok (.getfield 52, 3) := by decide +kernel
theorem dX6_worked_104 : decode cX6_worked 104 = .ok (.iload_n 2, 1) := by decide +kernel
theorem dX6_worked_105 : decode cX6_worked 105 = .ok (.iconst 1, 1) := by decide +kernel
theorem dX6_worked_106 : decode cX6_worked 106 = .ok (.isub, 1) := by decide +kernel
theorem dX6_worked_107 : decode cX6_worked 107 = .ok (.aload_n 0, 1) := by decide +kernel
theorem dX6_worked_108 : decode cX6_worked 108 = .ok (.getfield 52, 3) := by decide +kernel
theorem dX6_worked_111 : decode cX6_worked 111 = .ok (.iload_n 2, 1) := by decide +kernel
theorem dX6_worked_112 : decode cX6_worked 112 = .ok (.iconst 1, 1) := by decide +kernel
theorem dX6_worked_113 : decode cX6_worked 113 = .ok (.isub, 1) := by decide +kernel
theorem dX6_worked_114 : decode cX6_worked 114 = .ok (.iaload, 1) := by decide +kernel
theorem dX6_worked_115 : decode cX6_worked 115 = .ok (.ifCond .ne 7, 3) := by decide +kernel
theorem dX6_worked_118 : decode cX6_worked 118 = .ok (.iconst 1, 1) := by decide +kernel
theorem dX6_worked_119 : decode cX6_worked 119 = .ok (.goto 4, 3) := by decide +kernel
theorem dX6_worked_122 : decode cX6_worked 122 = .ok (.iconst 0, 1) := by decide +kernel
theorem dX6_worked_123 : decode cX6_worked 123 = .ok (.iastore, 1) := by decide +kernel
theorem dX6_worked_124 : decode cX6_worked 124 = .ok (.goto 33, 3) := by decide +kernel
theorem dX6_worked_127 : decode cX6_worked 127 = .ok (.iinc 2 (-1), 3) := by decide +kernel
theorem dX6_worked_130 : decode cX6_worked 130 = .ok (.aload_n 0, 1) := by decide +kernel
theorem dX6_worked_131 : decode cX6_worked 131 = .ok (.getfield 52, 3) := by decide +kernel
theorem dX6_worked_134 : decode cX6_worked 134 = .ok (.iload_n 2, 1) := by decide +kernel
theorem dX6_worked_135 : decode cX6_worked 135 = .ok (.iconst 1, 1) := by decide +kernel
theorem dX6_worked_136 : decode cX6_worked 136 = .ok (.isub, 1) := by decide +kernel
theorem dX6_worked_137 : decode cX6_worked 137 = .ok (.iload 5, 2) := by decide +kernel
theorem dX6_worked_139 : decode cX6_worked 139 = .ok (.aload_n 0, 1) := by decide +kernel
theorem dX6_worked_140 : decode cX6_worked 140 = .ok (.getfield 52, 3) := by decide +kernel
theorem dX6_worked_143 : decode cX6_worked 143 = .ok (.iload_n 2, 1) := by decide +kernel
theorem dX6_worked_144 : decode cX6_worked 144 = .ok (.iconst 1, 1) := by decide +kernel
theorem dX6_worked_145 : decode cX6_worked 145 = .ok (.isub, 1) := by decide +kernel
theorem dX6_worked_146 : decode cX6_worked 146 = .ok (.iaload, 1) := by decide +kernel
theorem dX6_worked_147 : decode cX6_worked 147 = .ok (.aload_n 0, 1) := by decide +kernel
theorem dX6_worked_148 : decode cX6_worked 148 = .ok (.getfield 52, 3) := by decide +kernel
theorem dX6_worked_151 : decode cX6_worked 151 = .ok (.iload_n 2, 1) := by decide +kernel
theorem dX6_worked_152 : decode cX6_worked 152 = .ok (.iaload, 1) := by decide +kernel
theorem dX6_worked_153 : decode cX6_worked 153 = .ok (.invokestatic 309, 3) := by decide +kernel
theorem dX6_worked_156 : decode cX6_worked 156 = .ok (.iastore, 1) := by decide +kernel
theorem dX6_worked_157 : decode cX6_worked 157 = .ok (.iinc 3 1, 3) := by decide +kernel
theorem dX6_worked_160 : decode cX6_worked 160 = .ok (.goto (-156), 3) := by decide +kernel
theorem dX6_worked_163 : decode cX6_worked 163 = .ok (.aload_n 0, 1) := by decide +kernel
theorem dX6_worked_164 : decode cX6_worked 164 = .ok (.getfield 52, 3) := by decide +kernel
theorem dX6_worked_167 : decode cX6_worked 167 = .ok (.iconst 0, 1) := by decide +kernel
theorem dX6_worked_168 : decode cX6_worked 168 = .ok (.iaload, 1) := by decide +kernel
theorem dX6_worked_169 : decode cX6_worked 169 = .ok (.ireturn, 1) := by decide +kernel
theorem dX6_isSheet_0 : decode cX6_isSheet 0 = .ok (.iload_n 0, 1) := by decide +kernel
theorem dX6_isSheet_1 : decode cX6_isSheet 1 = .ok (.i2l, 1) := by decide +kernel
theorem dX6_isSheet_2 : decode cX6_isSheet 2 = .ok (.lconst 0, 1) := by decide +kernel
theorem dX6_isSheet_3 : decode cX6_isSheet 3 = .ok (.ldc2_w 143, 3) := by decide +kernel
theorem dX6_isSheet_6 : decode cX6_isSheet 6 = .ok (.invokestatic 65, 3) := by decide +kernel
theorem dX6_isSheet_9 : decode cX6_isSheet 9 = .ok (.ireturn, 1) := by decide +kernel
theorem dX6_sheet_0 : decode cX6_sheet 0 = .ok (.iload_n 1, 1) := by decide +kernel
theorem dX6_sheet_1 : decode cX6_sheet 1 = .ok (.invokestatic 313, 3) := by decide +kernel
theorem dX6_sheet_4 : decode cX6_sheet 4 = .ok (.ifCond .eq 25, 3) := by decide +kernel
theorem dX6_sheet_7 : decode cX6_sheet 7 = .ok (.iload_n 2, 1) := by decide +kernel
theorem dX6_sheet_8 : decode cX6_sheet 8 = .ok (.i2l, 1) := by decide +kernel
theorem dX6_sheet_9 : decode cX6_sheet 9 = .ok (.ldc2_w 316, 3) := by decide +kernel
theorem dX6_sheet_12 : decode cX6_sheet 12 = .ok (.lconst 1, 1) := by decide +kernel
theorem dX6_sheet_13 : decode cX6_sheet 13 = .ok (.invokestatic 65, 3) := by decide +kernel
theorem dX6_sheet_16 : decode cX6_sheet 16 = .ok (.ifCond .eq 13, 3) := by decide +kernel
theorem dX6_sheet_19 : decode cX6_sheet 19 = .ok (.iload_n 2, 1) := by decide +kernel
theorem dX6_sheet_20 : decode cX6_sheet 20 = .ok (.ifCond .lt 12, 3) := by decide +kernel
theorem dX6_sheet_23 : decode cX6_sheet 23 = .ok (.iload_n 3, 1) := by decide +kernel
theorem dX6_sheet_24 : decode cX6_sheet 24 = .ok (.bipush 24, 2) := by decide +kernel
theorem dX6_sheet_26 : decode cX6_sheet 26 = .ok (.if_icmp .le 6, 3) := by decide +kernel
theorem dX6_sheet_29 : decode cX6_sheet 29 = .ok (.ldc 110, 2) := by decide +kernel
theorem dX6_sheet_31 : decode cX6_sheet 31 = .ok (.ireturn, 1) := by decide +kernel
theorem dX6_sheet_32 : decode cX6_sheet 32 = .ok (.iload_n 2, 1) := by decide +kernel
theorem dX6_sheet_33 : decode cX6_sheet 33 = .ok (.ifCond .lt 11, 3) := by decide +kernel
theorem dX6_sheet_36 : decode cX6_sheet 36 = .ok (.iload_n 3, 1) := by decide +kernel
theorem dX6_sheet_37 : decode cX6_sheet 37 = .ok (.ifCond .ge 7, 3) := by decide +kernel
theorem dX6_sheet_40 : decode cX6_sheet 40 = .ok (.ldc_w 318, 3) := by decide +kernel
theorem dX6_sheet_43 : decode cX6_sheet 43 = .ok (.ireturn, 1) := by decide +kernel
theorem dX6_sheet_44 : decode cX6_sheet 44 = .ok (.aload_n 0, 1) := by decide +kernel
theorem dX6_sheet_45 : decode cX6_sheet 45 = .ok (.getfield 19, 3) := by decide +kernel
theorem dX6_sheet_48 : decode cX6_sheet 48 = .ok (.iload_n 1, 1) := by decide +kernel
theorem dX6_sheet_49 : decode cX6_sheet 49 = .ok (.iload_n 2, 1) := by decide +kernel
theorem dX6_sheet_50 : decode cX6_sheet 50 = .ok (.iastore, 1) := by decide +kernel
theorem dX6_sheet_51 : decode cX6_sheet 51 = .ok (.aload_n 0, 1) := by decide +kernel
theorem dX6_sheet_52 : decode cX6_sheet 52 = .ok (.getfield 22, 3) := by decide +kernel
theorem dX6_sheet_55 : decode cX6_sheet 55 = .ok (.iload_n 1, 1) := by decide +kernel
theorem dX6_sheet_56 : decode cX6_sheet 56 = .ok (.iload_n 2, 1) := by decide +kernel
theorem dX6_sheet_57 : decode cX6_sheet 57 = .ok (.ifCond .ge 7, 3) := by decide +kernel
theorem dX6_sheet_60 : decode cX6_sheet 60 = .ok (.iconst 0, 1) := by decide +kernel
theorem dX6_sheet_61 : decode cX6_sheet 61 = .ok (.goto 4, 3) := by decide +kernel
theorem dX6_sheet_64 : decode cX6_sheet 64 = .ok (.iload_n 3, 1) := by decide +kernel
theorem dX6_sheet_65 : decode cX6_sheet 65 = .ok (.iastore, 1) := by decide +kernel
theorem dX6_sheet_66 : decode cX6_sheet 66 = .ok (.iconst 0, 1) := by decide +kernel
theorem dX6_sheet_67 : decode cX6_sheet 67 = .ok (.istore 4, 2) := by decide +kernel
theorem dX6_sheet_69 : decode cX6_sheet 69 = .ok (.iload 4, 2) := by decide +kernel
theorem dX6_sheet_71 : decode cX6_sheet 71 = .ok (.bipush 24, 2) := by decide +kernel
theorem dX6_sheet_73 : decode cX6_sheet 73 = .ok (.if_icmp .ge 22, 3) := by decide +kernel
theorem dX6_sheet_76 : decode cX6_sheet 76 = .ok (.aload_n 0, 1) := by decide +kernel
theorem dX6_sheet_77 : decode cX6_sheet 77 = .ok (.getfield 25, 3) := by decide +kernel
theorem dX6_sheet_80 : decode cX6_sheet 80 = .ok (.bipush 24, 2) := by decide +kernel
theorem dX6_sheet_82 : decode cX6_sheet 82 = .ok (.iload_n 1, 1) := by decide +kernel
theorem dX6_sheet_83 : decode cX6_sheet 83 = .ok (.imul, 1) := by decide +kernel
theorem dX6_sheet_84 : decode cX6_sheet 84 = .ok (.iload 4, 2) := by decide +kernel
theorem dX6_sheet_86 : decode cX6_sheet 86 = .ok (.iadd, 1) := by decide +kernel
theorem dX6_sheet_87 : decode cX6_sheet 87 = .ok (.iconst 0, 1) := by decide +kernel
theorem dX6_sheet_88 : decode cX6_sheet 88 = .ok (.iastore, 1) := by decide +kernel
theorem dX6_sheet_89 : decode cX6_sheet 89 = .ok (.iinc 4 1, 3) := by decide +kernel
theorem dX6_sheet_92 : decode cX6_sheet 92 = .ok (.goto (-23), 3) := by decide +kernel
theorem dX6_sheet_95 : decode cX6_sheet 95 = .ok (.aload_n 0, 1) := by decide +kernel
theorem dX6_sheet_96 : decode cX6_sheet 96 = .ok (.getfield 22, 3) := by decide +kernel
theorem dX6_sheet_99 : decode cX6_sheet 99 = .ok (.iload_n 1, 1) := by decide +kernel
theorem dX6_sheet_100 : decode cX6_sheet 100 = .ok (.iaload, 1) := by decide +kernel
theorem dX6_sheet_101 : decode cX6_sheet 101 = .ok (.ireturn, 1) := by decide +kernel
theorem dX6_mark_0 : decode cX6_mark 0 = .ok (.iload_n 1, 1) := by decide +kernel
theorem dX6_mark_1 : decode cX6_mark 1 = .ok (.invokestatic 313, 3) := by decide +kernel
theorem dX6_mark_4 : decode cX6_mark 4 = .ok (.ifCond .ne 6, 3) := by decide +kernel
theorem dX6_mark_7 : decode cX6_mark 7 = .ok (.ldc 110, 2) := by decide +kernel
theorem dX6_mark_9 : decode cX6_mark 9 = .ok (.ireturn, 1) := by decide +kernel
theorem dX6_mark_10 : decode cX6_mark 10 = .ok (.aload_n 0, 1) := by decide +kernel
theorem dX6_mark_11 : decode cX6_mark 11 = .ok (.getfield 19, 3) := by decide +kernel
theorem dX6_mark_14 : decode cX6_mark 14 = .ok (.iload_n 1, 1) := by decide +kernel
theorem dX6_mark_15 : decode cX6_mark 15 = .ok (.iaload, 1) := by decide +kernel
theorem dX6_mark_16 : decode cX6_mark 16 = .ok (.ifCond .ge 7, 3) := by decide +kernel
theorem dX6_mark_19 : decode cX6_mark 19 = .ok (.ldc_w 319, 3) := by decide +kernel
theorem dX6_mark_22 : decode cX6_mark 22 = .ok (.ireturn, 1) := by decide +kernel
theorem dX6_mark_23 : decode cX6_mark 23 = .ok (.iload_n 2, 1) := by decide +kernel
theorem dX6_mark_24 : decode cX6_mark 24 = .ok (.i2l, 1) := by decide +kernel
theorem dX6_mark_25 : decode cX6_mark 25 = .ok (.lconst 0, 1) := by decide +kernel
theorem dX6_mark_26 : decode cX6_mark 26 = .ok (.aload_n 0, 1) := by decide +kernel
theorem dX6_mark_27 : decode cX6_mark 27 = .ok (.getfield 22, 3) := by decide +kernel
theorem dX6_mark_30 : decode cX6_mark 30 = .ok (.iload_n 1, 1) := by decide +kernel
theorem dX6_mark_31 : decode cX6_mark 31 = .ok (.iaload, 1) := by decide +kernel
theorem dX6_mark_32 : decode cX6_mark 32 = .ok (.iconst 1, 1) := by decide +kernel
theorem dX6_mark_33 : decode cX6_mark 33 = .ok (.isub, 1) := by decide +kernel
theorem dX6_mark_34 : decode cX6_mark 34 = .ok (.i2l, 1) := by decide +kernel
theorem dX6_mark_35 : decode cX6_mark 35 = .ok (.invokestatic 65, 3) := by decide +kernel
theorem dX6_mark_38 : decode cX6_mark 38 = .ok (.ifCond .ne 7, 3) := by decide +kernel
theorem dX6_mark_41 : decode cX6_mark 41 = .ok (.ldc_w 320, 3) := by decide +kernel
theorem dX6_mark_44 : decode cX6_mark 44 = .ok (.ireturn, 1) := by decide +kernel
theorem dX6_mark_45 : decode cX6_mark 45 = .ok (.aload_n 0, 1) := by decide +kernel
theorem dX6_mark_46 : decode cX6_mark 46 = .ok (.getfield 19, 3) := by decide +kernel
theorem dX6_mark_49 : decode cX6_mark 49 = .ok (.iload_n 1, 1) := by decide +kernel
theorem dX6_mark_50 : decode cX6_mark 50 = .ok (.iaload, 1) := by decide +kernel
theorem dX6_mark_51 : decode cX6_mark 51 = .ok (.ifCond .ne 12, 3) := by decide +kernel
theorem dX6_mark_54 : decode cX6_mark 54 = .ok (.iload_n 3, 1) := by decide +kernel
theorem dX6_mark_55 : decode cX6_mark 55 = .ok (.ldc 64, 2) := by decide +kernel
theorem dX6_mark_57 : decode cX6_mark 57 = .ok (.if_icmp .ne 6, 3) := by decide +kernel
theorem dX6_mark_60 : decode cX6_mark 60 = .ok (.ldc 137, 2) := by decide +kernel
theorem dX6_mark_62 : decode cX6_mark 62 = .ok (.ireturn, 1) := by decide +kernel
theorem dX6_mark_63 : decode cX6_mark 63 = .ok (.aload_n 0, 1) := by decide +kernel
theorem dX6_mark_64 : decode cX6_mark 64 = .ok (.getfield 19, 3) := by decide +kernel
theorem dX6_mark_67 : decode cX6_mark 67 = .ok (.iload_n 1, 1) := by decide +kernel
theorem dX6_mark_68 : decode cX6_mark 68 = .ok (.iaload, 1) := by decide +kernel
theorem dX6_mark_69 : decode cX6_mark 69 = .ok (.iconst 1, 1) := by decide +kernel
theorem dX6_mark_70 : decode cX6_mark 70 = .ok (.if_icmp .ne 26, 3) := by decide +kernel
theorem dX6_mark_73 : decode cX6_mark 73 = .ok (.iload_n 3, 1) := by decide +kernel
theorem dX6_mark_74 : decode cX6_mark 74 = .ok (.ldc 64, 2) := by decide +kernel
theorem dX6_mark_76 : decode cX6_mark 76 = .ok (.if_icmp .eq 20, 3) := by decide +kernel
theorem dX6_mark_79 : decode cX6_mark 79 = .ok (.iload_n 3, 1) := by decide +kernel
theorem dX6_mark_80 : decode cX6_mark 80 = .ok (.i2l, 1) := by decide +kernel
theorem dX6_mark_81 : decode cX6_mark 81 = .ok (.ldc2_w 321, 3) := by decide +kernel
theorem dX6_mark_84 : decode cX6_mark 84 = .ok (.ldc2_w 209, 3) := by decide +kernel
theorem dX6_mark_87 : decode cX6_mark 87 = .ok (.invokestatic 65, 3) := by decide +kernel
theorem dX6_mark_90 : decode cX6_mark 90 = .ok (.ifCond .ne 6, 3) := by decide +kernel
theorem dX6_mark_93 : decode cX6_mark 93 = .ok (.ldc 110, 2) := by decide +kernel
theorem dX6_mark_95 : decode cX6_mark 95 = .ok (.ireturn, 1) := by decide +kernel
theorem dX6_mark_96 : decode cX6_mark 96 = .ok (.aload_n 0, 1) := by decide +kernel
theorem dX6_mark_97 : decode cX6_mark 97 = .ok (.getfield 25, 3) := by decide +kernel
theorem dX6_mark_100 : decode cX6_mark 100 = .ok (.bipush 24, 2) := by decide +kernel
theorem dX6_mark_102 : decode cX6_mark 102 = .ok (.iload_n 1, 1) := by decide +kernel
theorem dX6_mark_103 : decode cX6_mark 103 = .ok (.imul, 1) := by decide +kernel
theorem dX6_mark_104 : decode cX6_mark 104 = .ok (.iload_n 2, 1) := by decide +kernel
theorem dX6_mark_105 : decode cX6_mark 105 = .ok (.iadd, 1) := by decide +kernel
theorem dX6_mark_106 : decode cX6_mark 106 = .ok (.aload_n 0, 1) := by decide +kernel
theorem dX6_mark_107 : decode cX6_mark 107 = .ok (.getfield 19, 3) := by decide +kernel
theorem dX6_mark_110 : decode cX6_mark 110 = .ok (.iload_n 1, 1) := by decide +kernel
theorem dX6_mark_111 : decode cX6_mark 111 = .ok (.iaload, 1) := by decide +kernel
theorem dX6_mark_112 : decode cX6_mark 112 = .ok (.ifCond .ne 13, 3) := by decide +kernel
theorem dX6_mark_115 : decode cX6_mark 115 = .ok (.iload_n 3, 1) := by decide +kernel
theorem dX6_mark_116 : decode cX6_mark 116 = .ok (.bipush 16, 2) := by decide +kernel
theorem dX6_mark_118 : decode cX6_mark 118 = .ok (.ishl, 1) := by decide +kernel
theorem dX6_mark_119 : decode cX6_mark 119 = .ok (.bipush 16, 2) := by decide +kernel
theorem dX6_mark_121 : decode cX6_mark 121 = .ok (.ishr, 1) := by decide +kernel
theorem dX6_mark_122 : decode cX6_mark 122 = .ok (.goto 4, 3) := by decide +kernel
theorem dX6_mark_125 : decode cX6_mark 125 = .ok (.iload_n 3, 1) := by decide +kernel
theorem dX6_mark_126 : decode cX6_mark 126 = .ok (.iastore, 1) := by decide +kernel
theorem dX6_mark_127 : decode cX6_mark 127 = .ok (.iconst 1, 1) := by decide +kernel
theorem dX6_mark_128 : decode cX6_mark 128 = .ok (.ireturn, 1) := by decide +kernel
theorem dX6_pour_0 : decode cX6_pour 0 = .ok (.iload_n 1, 1) := by decide +kernel
theorem dX6_pour_1 : decode cX6_pour 1 = .ok (.invokestatic 313, 3) := by decide +kernel
theorem dX6_pour_4 : decode cX6_pour 4 = .ok (.ifCond .ne 6, 3) := by decide +kernel
theorem dX6_pour_7 : decode cX6_pour 7 = .ok (.ldc 110, 2) := by decide +kernel
theorem dX6_pour_9 : decode cX6_pour 9 = .ok (.ireturn, 1) := by decide +kernel
theorem dX6_pour_10 : decode cX6_pour 10 = .ok (.aload_n 0, 1) := by decide +kernel
theorem dX6_pour_11 : decode cX6_pour 11 = .ok (.getfield 19, 3) := by decide +kernel
theorem dX6_pour_14 : decode cX6_pour 14 = .ok (.iload_n 1, 1) := by decide +kernel
theorem dX6_pour_15 : decode cX6_pour 15 = .ok (.iaload, 1) := by decide +kernel
theorem dX6_pour_16 : decode cX6_pour 16 = .ok (.ifCond .ge 7, 3) := by decide +kernel
theorem dX6_pour_19 : decode cX6_pour 19 = .ok (.ldc_w 319, 3) := by decide +kernel
theorem dX6_pour_22 : decode cX6_pour 22 = .ok (.ireturn, 1) := by decide +kernel
theorem dX6_pour_23 : decode cX6_pour 23 = .ok (.iconst 0, 1) := by decide +kernel
theorem dX6_pour_24 : decode cX6_pour 24 = .ok (.istore_n 2, 1) := by decide +kernel
theorem dX6_pour_25 : decode cX6_pour 25 = .ok (.iconst 0, 1) := by decide +kernel
theorem dX6_pour_26 : decode cX6_pour 26 = .ok (.istore_n 3, 1) := by decide +kernel
theorem dX6_pour_27 : decode cX6_pour 27 = .ok (.iload_n 3, 1) := by decide +kernel
theorem dX6_pour_28 : decode cX6_pour 28 = .ok (.aload_n 0, 1) := by decide +kernel
theorem dX6_pour_29 : decode cX6_pour 29 = .ok (.getfield 22, 3) := by decide +kernel
theorem dX6_pour_32 : decode cX6_pour 32 = .ok (.iload_n 1, 1) := by decide +kernel
theorem dX6_pour_33 : decode cX6_pour 33 = .ok (.iaload, 1) := by decide +kernel
theorem dX6_pour_34 : decode cX6_pour 34 = .ok (.if_icmp .ge 84, 3) := by decide +kernel
theorem dX6_pour_37 : decode cX6_pour 37 = .ok (.iload_n 3, 1) := by decide +kernel
theorem dX6_pour_38 : decode cX6_pour 38 = .ok (.aload_n 0, 1) := by decide +kernel
theorem dX6_pour_39 : decode cX6_pour 39 = .ok (.getfield 7, 3) := by decide +kernel
theorem dX6_pour_42 : decode cX6_pour 42 = .ok (.iconst 0, 1) := by decide +kernel
theorem dX6_pour_43 : decode cX6_pour 43 = .ok (.iaload, 1) := by decide +kernel
theorem dX6_pour_44 : decode cX6_pour 44 = .ok (.if_icmp .ge 74, 3) := by decide +kernel
theorem dX6_pour_47 : decode cX6_pour 47 = .ok (.aload_n 0, 1) := by decide +kernel
theorem dX6_pour_48 : decode cX6_pour 48 = .ok (.getfield 25, 3) := by decide +kernel
theorem dX6_pour_51 : decode cX6_pour 51 = .ok (.bipush 24, 2) := by decide +kernel
theorem dX6_pour_53 : decode cX6_pour 53 = .ok (.iload_n 1, 1) := by decide +kernel
theorem dX6_pour_54 : decode cX6_pour 54 = .ok (.imul, 1) := by decide +kernel
theorem dX6_pour_55 : decode cX6_pour 55 = .ok (.iload_n 3, 1) := by decide +kernel
theorem dX6_pour_56 : decode cX6_pour 56 = .ok (.iadd, 1) := by decide +kernel
theorem dX6_pour_57 : decode cX6_pour 57 = .ok (.iaload, 1) := by decide +kernel
theorem dX6_pour_58 : decode cX6_pour 58 = .ok (.istore 4, 2) := by decide +kernel
theorem dX6_pour_60 : decode cX6_pour 60 = .ok (.iload 4, 2) := by decide +kernel
theorem dX6_pour_62 : decode cX6_pour 62 = .ok (.ldc 64, 2) := by decide +kernel
theorem dX6_pour_64 : decode cX6_pour 64 = .ok (.if_icmp .ne 12, 3) := by decide +kernel
theorem dX6_pour_67 : decode cX6_pour 67 = .ok (.aload_n 0, 1) := by decide +kernel
theorem dX6_pour_68 : decode cX6_pour 68 = .ok (.iload_n 3, 1) := by decide +kernel
theorem dX6_pour_69 : decode cX6_pour 69 = .ok (.iconst 1, 1) := by decide +kernel
theorem dX6_pour_70 : decode cX6_pour 70 = .ok (.invokevirtual 72, 3) := by decide +kernel
theorem dX6_pour_73 : decode cX6_pour 73 = .ok (.goto 10, 3) := by decide +kernel
theorem dX6_pour_76 : decode cX6_pour 76 = .ok (.iload 4, 2) := by decide +kernel
theorem dX6_pour_78 : decode cX6_pour 78 = .ok (.bipush 99, 2) := by decide +kernel
theorem dX6_pour_80 : decode cX6_pour 80 = .ok (.invokestatic 80, 3) := by decide +kernel
theorem dX6_pour_83 : decode cX6_pour 83 = .ok (.istore 5, 2) := by decide +kernel
theorem dX6_pour_85 : decode cX6_pour 85 = .ok (.iload_n 2, 1) := by decide +kernel
theorem dX6_pour_86 : decode cX6_pour 86 = .ok (.iload 5, 2) := by decide +kernel
theorem dX6_pour_88 : decode cX6_pour 88 = .ok (.aload_n 0, 1) := by decide +kernel
theorem dX6_pour_89 : decode cX6_pour 89 = .ok (.bipush 21, 2) := by decide +kernel
theorem dX6_pour_91 : decode cX6_pour 91 = .ok (.iconst 5, 1) := by decide +kernel
theorem dX6_pour_92 : decode cX6_pour 92 = .ok (.iload_n 3, 1) := by decide +kernel
theorem dX6_pour_93 : decode cX6_pour 93 = .ok (.imul, 1) := by decide +kernel
theorem dX6_pour_94 : decode cX6_pour 94 = .ok (.iadd, 1) := by decide +kernel
theorem dX6_pour_95 : decode cX6_pour 95 = .ok (.iconst 1, 1) := by decide +kernel
theorem dX6_pour_96 : decode cX6_pour 96 = .ok (.iadd, 1) := by decide +kernel
theorem dX6_pour_97 : decode cX6_pour 97 = .ok (.iload 5, 2) := by decide +kernel
theorem dX6_pour_99 : decode cX6_pour 99 = .ok (.invokevirtual 138, 3) := by decide +kernel
theorem dX6_pour_102 : decode cX6_pour 102 = .ok (.if_icmp .ne 7, 3) := by decide +kernel
theorem dX6_pour_105 : decode cX6_pour 105 = .ok (.iconst 0, 1) := by decide +kernel
theorem dX6_pour_106 : decode cX6_pour 106 = .ok (.goto 4, 3) := by decide +kernel
theorem dX6_pour_109 : decode cX6_pour 109 = .ok (.iconst 1, 1) := by decide +kernel
theorem dX6_pour_110 : decode cX6_pour 110 = .ok (.iadd, 1) := by decide +kernel
theorem dX6_pour_111 : decode cX6_pour 111 = .ok (.istore_n 2, 1) := by decide +kernel
theorem dX6_pour_112 : decode cX6_pour 112 = .ok (.iinc 3 1, 3) := by decide +kernel
theorem dX6_pour_115 : decode cX6_pour 115 = .ok (.goto (-88), 3) := by decide +kernel
theorem dX6_pour_118 : decode cX6_pour 118 = .ok (.iload_n 2, 1) := by decide +kernel
theorem dX6_pour_119 : decode cX6_pour 119 = .ok (.ireturn, 1) := by decide +kernel
theorem dX6_reads_0 : decode cX6_reads 0 = .ok (.iload_n 1, 1) := by decide +kernel
theorem dX6_reads_1 : decode cX6_reads 1 = .ok (.invokestatic 313, 3) := by decide +kernel
theorem dX6_reads_4 : decode cX6_reads 4 = .ok (.ifCond .ne 6, 3) := by decide +kernel
theorem dX6_reads_7 : decode cX6_reads 7 = .ok (.ldc 110, 2) := by decide +kernel
theorem dX6_reads_9 : decode cX6_reads 9 = .ok (.ireturn, 1) := by decide +kernel
theorem dX6_reads_10 : decode cX6_reads 10 = .ok (.aload_n 0, 1) := by decide +kernel
theorem dX6_reads_11 : decode cX6_reads 11 = .ok (.getfield 19, 3) := by decide +kernel
theorem dX6_reads_14 : decode cX6_reads 14 = .ok (.iload_n 1, 1) := by decide +kernel
theorem dX6_reads_15 : decode cX6_reads 15 = .ok (.iaload, 1) := by decide +kernel
theorem dX6_reads_16 : decode cX6_reads 16 = .ok (.ifCond .ge 7, 3) := by decide +kernel
theorem dX6_reads_19 : decode cX6_reads 19 = .ok (.ldc_w 319, 3) := by decide +kernel
theorem dX6_reads_22 : decode cX6_reads 22 = .ok (.ireturn, 1) := by decide +kernel
theorem dX6_reads_23 : decode cX6_reads 23 = .ok (.iconst 0, 1) := by decide +kernel
theorem dX6_reads_24 : decode cX6_reads 24 = .ok (.istore_n 2, 1) := by decide +kernel
theorem dX6_reads_25 : decode cX6_reads 25 = .ok (.iload_n 2, 1) := by decide +kernel
theorem dX6_reads_26 : decode cX6_reads 26 = .ok (.aload_n 0, 1) := by decide +kernel
theorem dX6_reads_27 : decode cX6_reads 27 = .ok (.getfield 22, 3) := by decide +kernel
theorem dX6_reads_30 : decode cX6_reads 30 = .ok (.iload_n 1, 1) := by decide +kernel
theorem dX6_reads_31 : decode cX6_reads 31 = .ok (.iaload, 1) := by decide +kernel
theorem dX6_reads_32 : decode cX6_reads 32 = .ok (.if_icmp .ge 49, 3) := by decide +kernel
theorem dX6_reads_35 : decode cX6_reads 35 = .ok (.aload_n 0, 1) := by decide +kernel
theorem dX6_reads_36 : decode cX6_reads 36 = .ok (.getfield 25, 3) := by decide +kernel
theorem dX6_reads_39 : decode cX6_reads 39 = .ok (.bipush 24, 2) := by decide +kernel
theorem dX6_reads_41 : decode cX6_reads 41 = .ok (.iload_n 1, 1) := by decide +kernel
theorem dX6_reads_42 : decode cX6_reads 42 = .ok (.imul, 1) := by decide +kernel
theorem dX6_reads_43 : decode cX6_reads 43 = .ok (.iload_n 2, 1) := by decide +kernel
theorem dX6_reads_44 : decode cX6_reads 44 = .ok (.iadd, 1) := by decide +kernel
theorem dX6_reads_45 : decode cX6_reads 45 = .ok (.iaload, 1) := by decide +kernel
theorem dX6_reads_46 : decode cX6_reads 46 = .ok (.istore_n 3, 1) := by decide +kernel
theorem dX6_reads_47 : decode cX6_reads 47 = .ok (.iload_n 3, 1) := by decide +kernel
theorem dX6_reads_48 : decode cX6_reads 48 = .ok (.ldc 64, 2) := by decide +kernel
theorem dX6_reads_50 : decode cX6_reads 50 = .ok (.if_icmp .eq 25, 3) := by decide +kernel
theorem dX6_reads_53 : decode cX6_reads 53 = .ok (.iload_n 2, 1) := by decide +kernel
theorem dX6_reads_54 : decode cX6_reads 54 = .ok (.aload_n 0, 1) := by decide +kernel
theorem dX6_reads_55 : decode cX6_reads 55 = .ok (.getfield 7, 3) := by decide +kernel
theorem dX6_reads_58 : decode cX6_reads 58 = .ok (.iconst 0, 1) := by decide +kernel
theorem dX6_reads_59 : decode cX6_reads 59 = .ok (.iaload, 1) := by decide +kernel
theorem dX6_reads_60 : decode cX6_reads 60 = .ok (.if_icmp .ge 13, 3) := by decide +kernel
theorem dX6_reads_63 : decode cX6_reads 63 = .ok (.iload_n 3, 1) := by decide +kernel
theorem dX6_reads_64 : decode cX6_reads 64 = .ok (.aload_n 0, 1) := by decide +kernel
theorem dX6_reads_65 : decode cX6_reads 65 = .ok (.iload_n 2, 1) := by decide +kernel
theorem dX6_reads_66 : decode cX6_reads 66 = .ok (.iconst 3, 1) := by decide +kernel
theorem dX6_reads_67 : decode cX6_reads 67 = .ok (.invokevirtual 72, 3) := by decide +kernel
theorem dX6_reads_70 : decode cX6_reads 70 = .ok (.if_icmp .eq 5, 3) := by decide +kernel
theorem dX6_reads_73 : decode cX6_reads 73 = .ok (.iload_n 2, 1) := by decide +kernel
theorem dX6_reads_74 : decode cX6_reads 74 = .ok (.ireturn, 1) := by decide +kernel
theorem dX6_reads_75 : decode cX6_reads 75 = .ok (.iinc 2 1, 3) := by decide +kernel
theorem dX6_reads_78 : decode cX6_reads 78 = .ok (.goto (-53), 3) := by decide +kernel
theorem dX6_reads_81 : decode cX6_reads 81 = .ok (.ldc 64, 2) := by decide +kernel
theorem dX6_reads_83 : decode cX6_reads 83 = .ok (.ireturn, 1) := by decide +kernel
theorem dX6_unlike_0 : decode cX6_unlike 0 = .ok (.aload_n 0, 1) := by decide +kernel
theorem dX6_unlike_1 : decode cX6_unlike 1 = .ok (.invokevirtual 194, 3) := by decide +kernel
theorem dX6_unlike_4 : decode cX6_unlike 4 = .ok (.lconst 0, 1) := by decide +kernel
theorem dX6_unlike_5 : decode cX6_unlike 5 = .ok (.lstore_n 3, 1) := by decide +kernel
theorem dX6_unlike_6 : decode cX6_unlike 6 = .ok (.iconst 0, 1) := by decide +kernel
theorem dX6_unlike_7 : decode cX6_unlike 7 = .ok (.istore 5, 2) := by decide +kernel
theorem dX6_unlike_9 : decode cX6_unlike 9 = .ok (.iload 5, 2) := by decide +kernel
theorem dX6_unlike_11 : decode cX6_unlike 11 = .ok (.aload_n 0, 1) := by decide +kernel
theorem dX6_unlike_12 : decode cX6_unlike 12 = .ok (.getfield 22, 3) := by decide +kernel
theorem dX6_unlike_15 : decode cX6_unlike 15 = .ok (.iload_n 1, 1) := by decide +kernel
theorem dX6_unlike_16 : decode cX6_unlike 16 = .ok (.iaload, 1) := by decide +kernel
theorem dX6_unlike_17 : decode cX6_unlike 17 = .ok (.if_icmp .ge 53, 3) := by decide +kernel
theorem dX6_unlike_20 : decode cX6_unlike 20 = .ok (.aload_n 0, 1) := by decide +kernel
theorem dX6_unlike_21 : decode cX6_unlike 21 = .ok (.getfield 25, 3) := by decide +kernel
theorem dX6_unlike_24 : decode cX6_unlike 24 = .ok (.bipush 24, 2) := by decide +kernel
theorem dX6_unlike_26 : decode cX6_unlike 26 = .ok (.iload_n 1, 1) := by decide +kernel
theorem dX6_unlike_27 : decode cX6_unlike 27 = .ok (.imul, 1) := by decide +kernel
theorem dX6_unlike_28 : decode cX6_unlike 28 = .ok (.iload 5, 2) := by decide +kernel
theorem dX6_unlike_30 : decode cX6_unlike 30 = .ok (.iadd, 1) := by decide +kernel
theorem dX6_unlike_31 : decode cX6_unlike 31 = .ok (.iaload, 1) := by decide +kernel
theorem dX6_unlike_32 : decode cX6_unlike 32 = .ok (.istore 6, 2) := by decide +kernel
theorem dX6_unlike_34 : decode cX6_unlike 34 = .ok (.lload_n 3, 1) := by decide +kernel
theorem dX6_unlike_35 : decode cX6_unlike 35 = .ok (.iload 6, 2) := by decide +kernel
theorem dX6_unlike_37 : decode cX6_unlike 37 = .ok (.ldc 64, 2) := by decide +kernel
theorem dX6_unlike_39 : decode cX6_unlike 39 = .ok (.if_icmp .ne 7, 3) := by decide +kernel
theorem dX6_unlike_42 : decode cX6_unlike 42 = .ok (.lconst 0, 1) := by decide +kernel
theorem dX6_unlike_43 : decode cX6_unlike 43 = .ok (.goto 15, 3) := by decide +kernel
theorem dX6_unlike_46 : decode cX6_unlike 46 = .ok (.iload 6, 2) := by decide +kernel
theorem dX6_unlike_48 : decode cX6_unlike 48 = .ok (.aload_n 0, 1) := by decide +kernel
theorem dX6_unlike_49 : decode cX6_unlike 49 = .ok (.iload_n 2, 1) := by decide +kernel
theorem dX6_unlike_50 : decode cX6_unlike 50 = .ok (.iconst 2, 1) := by decide +kernel
theorem dX6_unlike_51 : decode cX6_unlike 51 = .ok (.invokevirtual 72, 3) := by decide +kernel
theorem dX6_unlike_54 : decode cX6_unlike 54 = .ok (.invokestatic 323, 3) := by decide +kernel
theorem dX6_unlike_57 : decode cX6_unlike 57 = .ok (.i2l, 1) := by decide +kernel
theorem dX6_unlike_58 : decode cX6_unlike 58 = .ok (.ladd, 1) := by decide +kernel
theorem dX6_unlike_59 : decode cX6_unlike 59 = .ok (.lstore_n 3, 1) := by decide +kernel
theorem dX6_unlike_60 : decode cX6_unlike 60 = .ok (.aload_n 0, 1) := by decide +kernel
theorem dX6_unlike_61 : decode cX6_unlike 61 = .ok (.invokevirtual 179, 3) := by decide +kernel
theorem dX6_unlike_64 : decode cX6_unlike 64 = .ok (.iinc 5 1, 3) := by decide +kernel
theorem dX6_unlike_67 : decode cX6_unlike 67 = .ok (.goto (-58), 3) := by decide +kernel
theorem dX6_unlike_70 : decode cX6_unlike 70 = .ok (.aload_n 0, 1) := by decide +kernel
theorem dX6_unlike_71 : decode cX6_unlike 71 = .ok (.invokevirtual 197, 3) := by decide +kernel
theorem dX6_unlike_74 : decode cX6_unlike 74 = .ok (.lload_n 3, 1) := by decide +kernel
theorem dX6_unlike_75 : decode cX6_unlike 75 = .ok (.lreturn, 1) := by decide +kernel
theorem dX6_like_0 : decode cX6_like 0 = .ok (.iload_n 1, 1) := by decide +kernel
theorem dX6_like_1 : decode cX6_like 1 = .ok (.invokestatic 313, 3) := by decide +kernel
theorem dX6_like_4 : decode cX6_like 4 = .ok (.ifCond .eq 13, 3) := by decide +kernel
theorem dX6_like_7 : decode cX6_like 7 = .ok (.iload_n 2, 1) := by decide +kernel
theorem dX6_like_8 : decode cX6_like 8 = .ok (.i2l, 1) := by decide +kernel
theorem dX6_like_9 : decode cX6_like 9 = .ok (.lconst 0, 1) := by decide +kernel
theorem dX6_like_10 : decode cX6_like 10 = .ok (.lconst 1, 1) := by decide +kernel
theorem dX6_like_11 : decode cX6_like 11 = .ok (.invokestatic 65, 3) := by decide +kernel
theorem dX6_like_14 : decode cX6_like 14 = .ok (.ifCond .ne 6, 3) := by decide +kernel
theorem dX6_like_17 : decode cX6_like 17 = .ok (.ldc 110, 2) := by decide +kernel
theorem dX6_like_19 : decode cX6_like 19 = .ok (.ireturn, 1) := by decide +kernel
theorem dX6_like_20 : decode cX6_like 20 = .ok (.aload_n 0, 1) := by decide +kernel
theorem dX6_like_21 : decode cX6_like 21 = .ok (.getfield 19, 3) := by decide +kernel
theorem dX6_like_24 : decode cX6_like 24 = .ok (.iload_n 1, 1) := by decide +kernel
theorem dX6_like_25 : decode cX6_like 25 = .ok (.iaload, 1) := by decide +kernel
theorem dX6_like_26 : decode cX6_like 26 = .ok (.ifCond .ge 7, 3) := by decide +kernel
theorem dX6_like_29 : decode cX6_like 29 = .ok (.ldc_w 319, 3) := by decide +kernel
theorem dX6_like_32 : decode cX6_like 32 = .ok (.ireturn, 1) := by decide +kernel
theorem dX6_like_33 : decode cX6_like 33 = .ok (.iconst (-1), 1) := by decide +kernel
theorem dX6_like_34 : decode cX6_like 34 = .ok (.istore_n 3, 1) := by decide +kernel
theorem dX6_like_35 : decode cX6_like 35 = .ok (.lconst 0, 1) := by decide +kernel
theorem dX6_like_36 : decode cX6_like 36 = .ok (.lstore 4, 2) := by decide +kernel
theorem dX6_like_38 : decode cX6_like 38 = .ok (.iconst 0, 1) := by decide +kernel
theorem dX6_like_39 : decode cX6_like 39 = .ok (.istore 6, 2) := by decide +kernel
theorem dX6_like_41 : decode cX6_like 41 = .ok (.iload 6, 2) := by decide +kernel
theorem dX6_like_43 : decode cX6_like 43 = .ok (.aload_n 0, 1) := by decide +kernel
theorem dX6_like_44 : decode cX6_like 44 = .ok (.getfield 7, 3) := by decide +kernel
theorem dX6_like_47 : decode cX6_like 47 = .ok (.iconst 0, 1) := by decide +kernel
theorem dX6_like_48 : decode cX6_like 48 = .ok (.iaload, 1) := by decide +kernel
theorem dX6_like_49 : decode cX6_like 49 = .ok (.if_icmp .ge 63, 3) := by decide +kernel
theorem dX6_like_52 : decode cX6_like 52 = .ok (.aload_n 0, 1) := by decide +kernel
theorem dX6_like_53 : decode cX6_like 53 = .ok (.iload_n 1, 1) := by decide +kernel
theorem dX6_like_54 : decode cX6_like 54 = .ok (.iload 6, 2) := by decide +kernel
theorem dX6_like_56 : decode cX6_like 56 = .ok (.invokevirtual 326, 3) := by decide +kernel
theorem dX6_like_59 : decode cX6_like 59 = .ok (.lstore 7, 2) := by decide +kernel
theorem dX6_like_61 : decode cX6_like 61 = .ok (.iload_n 3, 1) := by decide +kernel
theorem dX6_like_62 : decode cX6_like 62 = .ok (.ifCond .lt 11, 3) := by decide +kernel
theorem dX6_like_65 : decode cX6_like 65 = .ok (.lload 7, 2) := by decide +kernel
theorem dX6_like_67 : decode cX6_like 67 = .ok (.lload 4, 2) := by decide +kernel
theorem dX6_like_69 : decode cX6_like 69 = .ok (.lcmp, 1) := by decide +kernel
theorem dX6_like_70 : decode cX6_like 70 = .ok (.ifCond .ge 7, 3) := by decide +kernel
theorem dX6_like_73 : decode cX6_like 73 = .ok (.iconst 1, 1) := by decide +kernel
theorem dX6_like_74 : decode cX6_like 74 = .ok (.goto 4, 3) := by decide +kernel
theorem dX6_like_77 : decode cX6_like 77 = .ok (.iconst 0, 1) := by decide +kernel
theorem dX6_like_78 : decode cX6_like 78 = .ok (.istore 9, 2) := by decide +kernel
theorem dX6_like_80 : decode cX6_like 80 = .ok (.iload 9, 2) := by decide +kernel
theorem dX6_like_82 : decode cX6_like 82 = .ok (.ifCond .eq 8, 3) := by decide +kernel
theorem dX6_like_85 : decode cX6_like 85 = .ok (.iload 6, 2) := by decide +kernel
theorem dX6_like_87 : decode cX6_like 87 = .ok (.goto 4, 3) := by decide +kernel
theorem dX6_like_90 : decode cX6_like 90 = .ok (.iload_n 3, 1) := by decide +kernel
theorem dX6_like_91 : decode cX6_like 91 = .ok (.istore_n 3, 1) := by decide +kernel
theorem dX6_like_92 : decode cX6_like 92 = .ok (.iload 9, 2) := by decide +kernel
theorem dX6_like_94 : decode cX6_like 94 = .ok (.ifCond .eq 8, 3) := by decide +kernel
theorem dX6_like_97 : decode cX6_like 97 = .ok (.lload 7, 2) := by decide +kernel
theorem dX6_like_99 : decode cX6_like 99 = .ok (.goto 5, 3) := by decide +kernel
theorem dX6_like_102 : decode cX6_like 102 = .ok (.lload 4, 2) := by decide +kernel
theorem dX6_like_104 : decode cX6_like 104 = .ok (.lstore 4, 2) := by decide +kernel
theorem dX6_like_106 : decode cX6_like 106 = .ok (.iinc 6 1, 3) := by decide +kernel
theorem dX6_like_109 : decode cX6_like 109 = .ok (.goto (-68), 3) := by decide +kernel
theorem dX6_like_112 : decode cX6_like 112 = .ok (.iload_n 3, 1) := by decide +kernel
theorem dX6_like_113 : decode cX6_like 113 = .ok (.ifCond .ge 8, 3) := by decide +kernel
theorem dX6_like_116 : decode cX6_like 116 = .ok (.ldc 64, 2) := by decide +kernel
theorem dX6_like_118 : decode cX6_like 118 = .ok (.goto 14, 3) := by decide +kernel
theorem dX6_like_121 : decode cX6_like 121 = .ok (.iload_n 2, 1) := by decide +kernel
theorem dX6_like_122 : decode cX6_like 122 = .ok (.ifCond .ne 7, 3) := by decide +kernel
theorem dX6_like_125 : decode cX6_like 125 = .ok (.iload_n 3, 1) := by decide +kernel
theorem dX6_like_126 : decode cX6_like 126 = .ok (.goto 6, 3) := by decide +kernel
theorem dX6_like_129 : decode cX6_like 129 = .ok (.lload 4, 2) := by decide +kernel
theorem dX6_like_131 : decode cX6_like 131 = .ok (.l2i, 1) := by decide +kernel
theorem dX6_like_132 : decode cX6_like 132 = .ok (.ireturn, 1) := by decide +kernel
theorem dX6_copy_0 : decode cX6_copy 0 = .ok (.iload_n 1, 1) := by decide +kernel
theorem dX6_copy_1 : decode cX6_copy 1 = .ok (.invokestatic 313, 3) := by decide +kernel
theorem dX6_copy_4 : decode cX6_copy 4 = .ok (.ifCond .eq 10, 3) := by decide +kernel
theorem dX6_copy_7 : decode cX6_copy 7 = .ok (.iload_n 3, 1) := by decide +kernel
theorem dX6_copy_8 : decode cX6_copy 8 = .ok (.invokestatic 313, 3) := by decide +kernel
theorem dX6_copy_11 : decode cX6_copy 11 = .ok (.ifCond .ne 6, 3) := by decide +kernel
theorem dX6_copy_14 : decode cX6_copy 14 = .ok (.ldc 110, 2) := by decide +kernel
theorem dX6_copy_16 : decode cX6_copy 16 = .ok (.ireturn, 1) := by decide +kernel
theorem dX6_copy_17 : decode cX6_copy 17 = .ok (.aload_n 0, 1) := by decide +kernel
theorem dX6_copy_18 : decode cX6_copy 18 = .ok (.getfield 19, 3) := by decide +kernel
theorem dX6_copy_21 : decode cX6_copy 21 = .ok (.iload_n 1, 1) := by decide +kernel
theorem dX6_copy_22 : decode cX6_copy 22 = .ok (.iaload, 1) := by decide +kernel
theorem dX6_copy_23 : decode cX6_copy 23 = .ok (.ifCond .lt 12, 3) := by decide +kernel
theorem dX6_copy_26 : decode cX6_copy 26 = .ok (.aload_n 0, 1) := by decide +kernel
theorem dX6_copy_27 : decode cX6_copy 27 = .ok (.getfield 19, 3) := by decide +kernel
theorem dX6_copy_30 : decode cX6_copy 30 = .ok (.iload_n 3, 1) := by decide +kernel
theorem dX6_copy_31 : decode cX6_copy 31 = .ok (.iaload, 1) := by decide +kernel
theorem dX6_copy_32 : decode cX6_copy 32 = .ok (.ifCond .ge 7, 3) := by decide +kernel
theorem dX6_copy_35 : decode cX6_copy 35 = .ok (.ldc_w 319, 3) := by decide +kernel
theorem dX6_copy_38 : decode cX6_copy 38 = .ok (.ireturn, 1) := by decide +kernel
theorem dX6_copy_39 : decode cX6_copy 39 = .ok (.aload_n 0, 1) := by decide +kernel
theorem dX6_copy_40 : decode cX6_copy 40 = .ok (.getfield 19, 3) := by decide +kernel
theorem dX6_copy_43 : decode cX6_copy 43 = .ok (.iload_n 1, 1) := by decide +kernel
theorem dX6_copy_44 : decode cX6_copy 44 = .ok (.iaload, 1) := by decide +kernel
theorem dX6_copy_45 : decode cX6_copy 45 = .ok (.aload_n 0, 1) := by decide +kernel
theorem dX6_copy_46 : decode cX6_copy 46 = .ok (.getfield 19, 3) := by decide +kernel
theorem dX6_copy_49 : decode cX6_copy 49 = .ok (.iload_n 3, 1) := by decide +kernel
theorem dX6_copy_50 : decode cX6_copy 50 = .ok (.iaload, 1) := by decide +kernel
theorem dX6_copy_51 : decode cX6_copy 51 = .ok (.if_icmp .eq 6, 3) := by decide +kernel
theorem dX6_copy_54 : decode cX6_copy 54 = .ok (.ldc 137, 2) := by decide +kernel
theorem dX6_copy_56 : decode cX6_copy 56 = .ok (.ireturn, 1) := by decide +kernel
theorem dX6_copy_57 : decode cX6_copy 57 = .ok (.iload_n 2, 1) := by decide +kernel
theorem dX6_copy_58 : decode cX6_copy 58 = .ok (.ifCond .lt 48, 3) := by decide +kernel
theorem dX6_copy_61 : decode cX6_copy 61 = .ok (.iload 4, 2) := by decide +kernel
theorem dX6_copy_63 : decode cX6_copy 63 = .ok (.ifCond .lt 43, 3) := by decide +kernel
theorem dX6_copy_66 : decode cX6_copy 66 = .ok (.iload 5, 2) := by decide +kernel
theorem dX6_copy_68 : decode cX6_copy 68 = .ok (.ifCond .lt 38, 3) := by decide +kernel
theorem dX6_copy_71 : decode cX6_copy 71 = .ok (.iload_n 2, 1) := by decide +kernel
theorem dX6_copy_72 : decode cX6_copy 72 = .ok (.i2l, 1) := by decide +kernel
theorem dX6_copy_73 : decode cX6_copy 73 = .ok (.iload 5, 2) := by decide +kernel
theorem dX6_copy_75 : decode cX6_copy 75 = .ok (.i2l, 1) := by decide +kernel
theorem dX6_copy_76 : decode cX6_copy 76 = .ok (.ladd, 1) := by decide +kernel
theorem dX6_copy_77 : decode cX6_copy 77 = .ok (.aload_n 0, 1) := by decide +kernel
theorem dX6_copy_78 : decode cX6_copy 78 = .ok (.getfield 22, 3) := by decide +kernel
theorem dX6_copy_81 : decode cX6_copy 81 = .ok (.iload_n 1, 1) := by decide +kernel
theorem dX6_copy_82 : decode cX6_copy 82 = .ok (.iaload, 1) := by decide +kernel
theorem dX6_copy_83 : decode cX6_copy 83 = .ok (.i2l, 1) := by decide +kernel
theorem dX6_copy_84 : decode cX6_copy 84 = .ok (.lcmp, 1) := by decide +kernel
theorem dX6_copy_85 : decode cX6_copy 85 = .ok (.ifCond .gt 21, 3) := by decide +kernel
theorem dX6_copy_88 : decode cX6_copy 88 = .ok (.iload 4, 2) := by decide +kernel
theorem dX6_copy_90 : decode cX6_copy 90 = .ok (.i2l, 1) := by decide +kernel
theorem dX6_copy_91 : decode cX6_copy 91 = .ok (.iload 5, 2) := by decide +kernel
theorem dX6_copy_93 : decode cX6_copy 93 = .ok (.i2l, 1) := by decide +kernel
theorem dX6_copy_94 : decode cX6_copy 94 = .ok (.ladd, 1) := by decide +kernel
theorem dX6_copy_95 : decode cX6_copy 95 = .ok (.aload_n 0, 1) := by decide +kernel
theorem dX6_copy_96 : decode cX6_copy 96 = .ok (.getfield 22, 3) := by decide +kernel
theorem dX6_copy_99 : decode cX6_copy 99 = .ok (.iload_n 3, 1) := by decide +kernel
theorem dX6_copy_100 : decode cX6_copy 100 = .ok (.iaload, 1) := by decide +kernel
theorem dX6_copy_101 : decode cX6_copy 101 = .ok (.i2l, 1) := by decide +kernel
theorem dX6_copy_102 : decode cX6_copy 102 = .ok (.lcmp, 1) := by decide +kernel
theorem dX6_copy_103 : decode cX6_copy 103 = .ok (.ifCond .le 7, 3) := by decide +kernel
theorem dX6_copy_106 : decode cX6_copy 106 = .ok (.ldc_w 320, 3) := by decide +kernel
theorem dX6_copy_109 : decode cX6_copy 109 = .ok (.ireturn, 1) := by decide +kernel
theorem dX6_copy_110 : decode cX6_copy 110 = .ok (.iconst 0, 1) := by decide +kernel
theorem dX6_copy_111 : decode cX6_copy 111 = .ok (.istore 6, 2) := by decide +kernel
theorem dX6_copy_113 : decode cX6_copy 113 = .ok (.iload 6, 2) := by decide +kernel
theorem dX6_copy_115 : decode cX6_copy 115 = .ok (.iload 5, 2) := by decide +kernel
theorem dX6_copy_117 : decode cX6_copy 117 = .ok (.if_icmp .ge 30, 3) := by decide +kernel
theorem dX6_copy_120 : decode cX6_copy 120 = .ok (.aload_n 0, 1) := by decide +kernel
theorem dX6_copy_121 : decode cX6_copy 121 = .ok (.getfield 55, 3) := by decide +kernel
theorem dX6_copy_124 : decode cX6_copy 124 = .ok (.iload 6, 2) := by decide +kernel
theorem dX6_copy_126 : decode cX6_copy 126 = .ok (.aload_n 0, 1) := by decide +kernel
theorem dX6_copy_127 : decode cX6_copy 127 = .ok (.getfield 25, 3) := by decide +kernel
theorem dX6_copy_130 : decode cX6_copy 130 = .ok (.bipush 24, 2) := by decide +kernel
theorem dX6_copy_132 : decode cX6_copy 132 = .ok (.iload_n 1, 1) := by decide +kernel
theorem dX6_copy_133 : decode cX6_copy 133 = .ok (.imul, 1) := by decide +kernel
theorem dX6_copy_134 : decode cX6_copy 134 = .ok (.iload_n 2, 1) := by decide +kernel
theorem dX6_copy_135 : decode cX6_copy 135 = .ok (.iadd, 1) := by decide +kernel
theorem dX6_copy_136 : decode cX6_copy 136 = .ok (.iload 6, 2) := by decide +kernel
theorem dX6_copy_138 : decode cX6_copy 138 = .ok (.iadd, 1) := by decide +kernel
theorem dX6_copy_139 : decode cX6_copy 139 = .ok (.iaload, 1) := by decide +kernel
theorem dX6_copy_140 : decode cX6_copy 140 = .ok (.iastore, 1) := by decide +kernel
theorem dX6_copy_141 : decode cX6_copy 141 = .ok (.iinc 6 1, 3) := by decide +kernel
theorem dX6_copy_144 : decode cX6_copy 144 = .ok (.goto (-31), 3) := by decide +kernel
theorem dX6_copy_147 : decode cX6_copy 147 = .ok (.iconst 0, 1) := by decide +kernel
theorem dX6_copy_148 : decode cX6_copy 148 = .ok (.istore 6, 2) := by decide +kernel
theorem dX6_copy_150 : decode cX6_copy 150 = .ok (.iload 6, 2) := by decide +kernel
theorem dX6_copy_152 : decode cX6_copy 152 = .ok (.iload 5, 2) := by decide +kernel
theorem dX6_copy_154 : decode cX6_copy 154 = .ok (.if_icmp .ge 31, 3) := by decide +kernel
theorem dX6_copy_157 : decode cX6_copy 157 = .ok (.aload_n 0, 1) := by decide +kernel
theorem dX6_copy_158 : decode cX6_copy 158 = .ok (.getfield 25, 3) := by decide +kernel
theorem dX6_copy_161 : decode cX6_copy 161 = .ok (.bipush 24, 2) := by decide +kernel
theorem dX6_copy_163 : decode cX6_copy 163 = .ok (.iload_n 3, 1) := by decide +kernel
theorem dX6_copy_164 : decode cX6_copy 164 = .ok (.imul, 1) := by decide +kernel
theorem dX6_copy_165 : decode cX6_copy 165 = .ok (.iload 4, 2) := by decide +kernel
theorem dX6_copy_167 : decode cX6_copy 167 = .ok (.iadd, 1) := by decide +kernel
theorem dX6_copy_168 : decode cX6_copy 168 = .ok (.iload 6, 2) := by decide +kernel
theorem dX6_copy_170 : decode cX6_copy 170 = .ok (.iadd, 1) := by decide +kernel
theorem dX6_copy_171 : decode cX6_copy 171 = .ok (.aload_n 0, 1) := by decide +kernel
theorem dX6_copy_172 : decode cX6_copy 172 = .ok (.getfield 55, 3) := by decide +kernel
theorem dX6_copy_175 : decode cX6_copy 175 = .ok (.iload 6, 2) := by decide +kernel
theorem dX6_copy_177 : decode cX6_copy 177 = .ok (.iaload, 1) := by decide +kernel
theorem dX6_copy_178 : decode cX6_copy 178 = .ok (.iastore, 1) := by decide +kernel
theorem dX6_copy_179 : decode cX6_copy 179 = .ok (.iinc 6 1, 3) := by decide +kernel
theorem dX6_copy_182 : decode cX6_copy 182 = .ok (.goto (-32), 3) := by decide +kernel
theorem dX6_copy_185 : decode cX6_copy 185 = .ok (.iload 5, 2) := by decide +kernel
theorem dX6_copy_187 : decode cX6_copy 187 = .ok (.ireturn, 1) := by decide +kernel
theorem dX6_isSlot_0 : decode cX6_isSlot 0 = .ok (.iload_n 0, 1) := by decide +kernel
theorem dX6_isSlot_1 : decode cX6_isSlot 1 = .ok (.i2l, 1) := by decide +kernel
theorem dX6_isSlot_2 : decode cX6_isSlot 2 = .ok (.lconst 0, 1) := by decide +kernel
theorem dX6_isSlot_3 : decode cX6_isSlot 3 = .ok (.ldc2_w 141, 3) := by decide +kernel
theorem dX6_isSlot_6 : decode cX6_isSlot 6 = .ok (.invokestatic 65, 3) := by decide +kernel
theorem dX6_isSlot_9 : decode cX6_isSlot 9 = .ok (.ireturn, 1) := by decide +kernel
theorem dX6_lay_0 : decode cX6_lay 0 = .ok (.iload_n 2, 1) := by decide +kernel
theorem dX6_lay_1 : decode cX6_lay 1 = .ok (.ifCond .eq 33, 3) := by decide +kernel
theorem dX6_lay_4 : decode cX6_lay 4 = .ok (.iload_n 2, 1) := by decide +kernel
theorem dX6_lay_5 : decode cX6_lay 5 = .ok (.iconst 3, 1) := by decide +kernel
theorem dX6_lay_6 : decode cX6_lay 6 = .ok (.if_icmp .eq 28, 3) := by decide +kernel
theorem dX6_lay_9 : decode cX6_lay 9 = .ok (.iload_n 2, 1) := by decide +kernel
theorem dX6_lay_10 : decode cX6_lay 10 = .ok (.iconst 1, 1) := by decide +kernel
theorem dX6_lay_11 : decode cX6_lay 11 = .ok (.if_icmp .ne 11, 3) := by decide +kernel
theorem dX6_lay_14 : decode cX6_lay 14 = .ok (.aload_n 0, 1) := by decide +kernel
theorem dX6_lay_15 : decode cX6_lay 15 = .ok (.iload_n 3, 1) := by decide +kernel
theorem dX6_lay_16 : decode cX6_lay 16 = .ok (.invokevirtual 116, 3) := by decide +kernel
theorem dX6_lay_19 : decode cX6_lay 19 = .ok (.ifCond .ne 15, 3) := by decide +kernel
theorem dX6_lay_22 : decode cX6_lay 22 = .ok (.iload_n 2, 1) := by decide +kernel
theorem dX6_lay_23 : decode cX6_lay 23 = .ok (.iconst 2, 1) := by decide +kernel
theorem dX6_lay_24 : decode cX6_lay 24 = .ok (.if_icmp .ne 14, 3) := by decide +kernel
theorem dX6_lay_27 : decode cX6_lay 27 = .ok (.iload_n 3, 1) := by decide +kernel
theorem dX6_lay_28 : decode cX6_lay 28 = .ok (.invokestatic 313, 3) := by decide +kernel
theorem dX6_lay_31 : decode cX6_lay 31 = .ok (.ifCond .eq 7, 3) := by decide +kernel
theorem dX6_lay_34 : decode cX6_lay 34 = .ok (.iconst 1, 1) := by decide +kernel
theorem dX6_lay_35 : decode cX6_lay 35 = .ok (.goto 4, 3) := by decide +kernel
theorem dX6_lay_38 : decode cX6_lay 38 = .ok (.iconst 0, 1) := by decide +kernel
theorem dX6_lay_39 : decode cX6_lay 39 = .ok (.istore 4, 2) := by decide +kernel
theorem dX6_lay_41 : decode cX6_lay 41 = .ok (.iload_n 1, 1) := by decide +kernel
theorem dX6_lay_42 : decode cX6_lay 42 = .ok (.invokestatic 330, 3) := by decide +kernel
theorem dX6_lay_45 : decode cX6_lay 45 = .ok (.ifCond .eq 8, 3) := by decide +kernel
theorem dX6_lay_48 : decode cX6_lay 48 = .ok (.iload 4, 2) := by decide +kernel
theorem dX6_lay_50 : decode cX6_lay 50 = .ok (.ifCond .ne 6, 3) := by decide +kernel
theorem dX6_lay_53 : decode cX6_lay 53 = .ok (.ldc 110, 2) := by decide +kernel
theorem dX6_lay_55 : decode cX6_lay 55 = .ok (.ireturn, 1) := by decide +kernel
theorem dX6_lay_56 : decode cX6_lay 56 = .ok (.iload_n 2, 1) := by decide +kernel
theorem dX6_lay_57 : decode cX6_lay 57 = .ok (.iconst 2, 1) := by decide +kernel
theorem dX6_lay_58 : decode cX6_lay 58 = .ok (.if_icmp .ne 16, 3) := by decide +kernel
theorem dX6_lay_61 : decode cX6_lay 61 = .ok (.aload_n 0, 1) := by decide +kernel
theorem dX6_lay_62 : decode cX6_lay 62 = .ok (.getfield 19, 3) := by decide +kernel
theorem dX6_lay_65 : decode cX6_lay 65 = .ok (.iload_n 3, 1) := by decide +kernel
theorem dX6_lay_66 : decode cX6_lay 66 = .ok (.iaload, 1) := by decide +kernel
theorem dX6_lay_67 : decode cX6_lay 67 = .ok (.ifCond .ge 7, 3) := by decide +kernel
theorem dX6_lay_70 : decode cX6_lay 70 = .ok (.ldc_w 319, 3) := by decide +kernel
theorem dX6_lay_73 : decode cX6_lay 73 = .ok (.ireturn, 1) := by decide +kernel
theorem dX6_lay_74 : decode cX6_lay 74 = .ok (.aload_n 0, 1) := by decide +kernel
theorem dX6_lay_75 : decode cX6_lay 75 = .ok (.getfield 28, 3) := by decide +kernel
theorem dX6_lay_78 : decode cX6_lay 78 = .ok (.iload_n 1, 1) := by decide +kernel
theorem dX6_lay_79 : decode cX6_lay 79 = .ok (.iaload, 1) := by decide +kernel
theorem dX6_lay_80 : decode cX6_lay 80 = .ok (.istore 5, 2) := by decide +kernel
theorem dX6_lay_82 : decode cX6_lay 82 = .ok (.aload_n 0, 1) := by decide +kernel
theorem dX6_lay_83 : decode cX6_lay 83 = .ok (.getfield 28, 3) := by decide +kernel
theorem dX6_lay_86 : decode cX6_lay 86 = .ok (.iload_n 1, 1) := by decide +kernel
theorem dX6_lay_87 : decode cX6_lay 87 = .ok (.iload_n 2, 1) := by decide +kernel
theorem dX6_lay_88 : decode cX6_lay 88 = .ok (.iastore, 1) := by decide +kernel
theorem dX6_lay_89 : decode cX6_lay 89 = .ok (.aload_n 0, 1) := by decide +kernel
theorem dX6_lay_90 : decode cX6_lay 90 = .ok (.getfield 31, 3) := by decide +kernel
theorem dX6_lay_93 : decode cX6_lay 93 = .ok (.iload_n 1, 1) := by decide +kernel
theorem dX6_lay_94 : decode cX6_lay 94 = .ok (.iload_n 2, 1) := by decide +kernel
theorem dX6_lay_95 : decode cX6_lay 95 = .ok (.iconst 1, 1) := by decide +kernel
theorem dX6_lay_96 : decode cX6_lay 96 = .ok (.if_icmp .ne 12, 3) := by decide +kernel
theorem dX6_lay_99 : decode cX6_lay 99 = .ok (.aload_n 0, 1) := by decide +kernel
theorem dX6_lay_100 : decode cX6_lay 100 = .ok (.iload_n 3, 1) := by decide +kernel
theorem dX6_lay_101 : decode cX6_lay 101 = .ok (.iconst 0, 1) := by decide +kernel
theorem dX6_lay_102 : decode cX6_lay 102 = .ok (.invokevirtual 72, 3) := by decide +kernel
theorem dX6_lay_105 : decode cX6_lay 105 = .ok (.goto 4, 3) := by decide +kernel
theorem dX6_lay_108 : decode cX6_lay 108 = .ok (.iload_n 3, 1) := by decide +kernel
theorem dX6_lay_109 : decode cX6_lay 109 = .ok (.iastore, 1) := by decide +kernel
theorem dX6_lay_110 : decode cX6_lay 110 = .ok (.aload_n 0, 1) := by decide +kernel
theorem dX6_lay_111 : decode cX6_lay 111 = .ok (.getfield 34, 3) := by decide +kernel
theorem dX6_lay_114 : decode cX6_lay 114 = .ok (.iload_n 1, 1) := by decide +kernel
theorem dX6_lay_115 : decode cX6_lay 115 = .ok (.iload_n 2, 1) := by decide +kernel
theorem dX6_lay_116 : decode cX6_lay 116 = .ok (.iconst 1, 1) := by decide +kernel
theorem dX6_lay_117 : decode cX6_lay 117 = .ok (.if_icmp .ne 11, 3) := by decide +kernel
theorem dX6_lay_120 : decode cX6_lay 120 = .ok (.aload_n 0, 1) := by decide +kernel
theorem dX6_lay_121 : decode cX6_lay 121 = .ok (.iload_n 3, 1) := by decide +kernel
theorem dX6_lay_122 : decode cX6_lay 122 = .ok (.invokevirtual 130, 3) := by decide +kernel
theorem dX6_lay_125 : decode cX6_lay 125 = .ok (.goto 4, 3) := by decide +kernel
theorem dX6_lay_128 : decode cX6_lay 128 = .ok (.iconst 0, 1) := by decide +kernel
theorem dX6_lay_129 : decode cX6_lay 129 = .ok (.iastore, 1) := by decide +kernel
theorem dX6_lay_130 : decode cX6_lay 130 = .ok (.iload_n 2, 1) := by decide +kernel
theorem dX6_lay_131 : decode cX6_lay 131 = .ok (.iconst 2, 1) := by decide +kernel
theorem dX6_lay_132 : decode cX6_lay 132 = .ok (.if_icmp .ne 55, 3) := by decide +kernel
theorem dX6_lay_135 : decode cX6_lay 135 = .ok (.aload_n 0, 1) := by decide +kernel
theorem dX6_lay_136 : decode cX6_lay 136 = .ok (.getfield 37, 3) := by decide +kernel
theorem dX6_lay_139 : decode cX6_lay 139 = .ok (.iload_n 1, 1) := by decide +kernel
theorem dX6_lay_140 : decode cX6_lay 140 = .ok (.aload_n 0, 1) := by decide +kernel
theorem dX6_lay_141 : decode cX6_lay 141 = .ok (.getfield 22, 3) := by decide +kernel
theorem dX6_lay_144 : decode cX6_lay 144 = .ok (.iload_n 3, 1) := by decide +kernel
theorem dX6_lay_145 : decode cX6_lay 145 = .ok (.iaload, 1) := by decide +kernel
theorem dX6_lay_146 : decode cX6_lay 146 = .ok (.iastore, 1) := by decide +kernel
theorem dX6_lay_147 : decode cX6_lay 147 = .ok (.iconst 0, 1) := by decide +kernel
theorem dX6_lay_148 : decode cX6_lay 148 = .ok (.istore 6, 2) := by decide +kernel
theorem dX6_lay_150 : decode cX6_lay 150 = .ok (.iload 6, 2) := by decide +kernel
theorem dX6_lay_152 : decode cX6_lay 152 = .ok (.bipush 24, 2) := by decide +kernel
theorem dX6_lay_154 : decode cX6_lay 154 = .ok (.if_icmp .ge 33, 3) := by decide +kernel
theorem dX6_lay_157 : decode cX6_lay 157 = .ok (.aload_n 0, 1) := by decide +kernel
theorem dX6_lay_158 : decode cX6_lay 158 = .ok (.getfield 40, 3) := by decide +kernel
theorem dX6_lay_161 : decode cX6_lay 161 = .ok (.bipush 24, 2) := by decide +kernel
theorem dX6_lay_163 : decode cX6_lay 163 = .ok (.iload_n 1, 1) := by decide +kernel
theorem dX6_lay_164 : decode cX6_lay 164 = .ok (.imul, 1) := by decide +kernel
theorem dX6_lay_165 : decode cX6_lay 165 = .ok (.iload 6, 2) := by decide +kernel
theorem dX6_lay_167 : decode cX6_lay 167 = .ok (.iadd, 1) := by decide +kernel
theorem dX6_lay_168 : decode cX6_lay 168 = .ok (.aload_n 0, 1) := by decide +kernel
theorem dX6_lay_169 : decode cX6_lay 169 = .ok (.getfield 25, 3) := by decide +kernel
theorem dX6_lay_172 : decode cX6_lay 172 = .ok (.bipush 24, 2) := by decide +kernel
theorem dX6_lay_174 : decode cX6_lay 174 = .ok (.iload_n 3, 1) := by decide +kernel
theorem dX6_lay_175 : decode cX6_lay 175 = .ok (.imul, 1) := by decide +kernel
theorem dX6_lay_176 : decode cX6_lay 176 = .ok (.iload 6, 2) := by decide +kernel
theorem dX6_lay_178 : decode cX6_lay 178 = .ok (.iadd, 1) := by decide +kernel
theorem dX6_lay_179 : decode cX6_lay 179 = .ok (.iaload, 1) := by decide +kernel
theorem dX6_lay_180 : decode cX6_lay 180 = .ok (.iastore, 1) := by decide +kernel
theorem dX6_lay_181 : decode cX6_lay 181 = .ok (.iinc 6 1, 3) := by decide +kernel
theorem dX6_lay_184 : decode cX6_lay 184 = .ok (.goto (-34), 3) := by decide +kernel
theorem dX6_lay_187 : decode cX6_lay 187 = .ok (.iload 5, 2) := by decide +kernel
theorem dX6_lay_189 : decode cX6_lay 189 = .ok (.ireturn, 1) := by decide +kernel
theorem dX6_ask_0 : decode cX6_ask 0 = .ok (.iload_n 1, 1) := by decide +kernel
theorem dX6_ask_1 : decode cX6_ask 1 = .ok (.invokestatic 330, 3) := by decide +kernel
theorem dX6_ask_4 : decode cX6_ask 4 = .ok (.ifCond .eq 15, 3) := by decide +kernel
theorem dX6_ask_7 : decode cX6_ask 7 = .ok (.iload_n 2, 1) := by decide +kernel
theorem dX6_ask_8 : decode cX6_ask 8 = .ok (.i2l, 1) := by decide +kernel
theorem dX6_ask_9 : decode cX6_ask 9 = .ok (.lconst 0, 1) := by decide +kernel
theorem dX6_ask_10 : decode cX6_ask 10 = .ok (.ldc2_w 70, 3) := by decide +kernel
theorem dX6_ask_13 : decode cX6_ask 13 = .ok (.invokestatic 65, 3) := by decide +kernel
theorem dX6_ask_16 : decode cX6_ask 16 = .ok (.ifCond .ne 6, 3) := by decide +kernel
theorem dX6_ask_19 : decode cX6_ask 19 = .ok (.ldc 110, 2) := by decide +kernel
theorem dX6_ask_21 : decode cX6_ask 21 = .ok (.ireturn, 1) := by decide +kernel
theorem dX6_ask_22 : decode cX6_ask 22 = .ok (.aload_n 0, 1) := by decide +kernel
theorem dX6_ask_23 : decode cX6_ask 23 = .ok (.getfield 28, 3) := by decide +kernel
theorem dX6_ask_26 : decode cX6_ask 26 = .ok (.iload_n 1, 1) := by decide +kernel
theorem dX6_ask_27 : decode cX6_ask 27 = .ok (.iaload, 1) := by decide +kernel
theorem dX6_ask_28 : decode cX6_ask 28 = .ok (.ifCond .ne 7, 3) := by decide +kernel
theorem dX6_ask_31 : decode cX6_ask 31 = .ok (.ldc_w 319, 3) := by decide +kernel
theorem dX6_ask_34 : decode cX6_ask 34 = .ok (.ireturn, 1) := by decide +kernel
theorem dX6_ask_35 : decode cX6_ask 35 = .ok (.aload_n 0, 1) := by decide +kernel
theorem dX6_ask_36 : decode cX6_ask 36 = .ok (.getfield 28, 3) := by decide +kernel
theorem dX6_ask_39 : decode cX6_ask 39 = .ok (.iload_n 1, 1) := by decide +kernel
theorem dX6_ask_40 : decode cX6_ask 40 = .ok (.iaload, 1) := by decide +kernel
theorem dX6_ask_41 : decode cX6_ask 41 = .ok (.iconst 1, 1) := by decide +kernel
theorem dX6_ask_42 : decode cX6_ask 42 = .ok (.if_icmp .ne 25, 3) := by decide +kernel
theorem dX6_ask_45 : decode cX6_ask 45 = .ok (.aload_n 0, 1) := by decide +kernel
theorem dX6_ask_46 : decode cX6_ask 46 = .ok (.getfield 31, 3) := by decide +kernel
theorem dX6_ask_49 : decode cX6_ask 49 = .ok (.iload_n 1, 1) := by decide +kernel
theorem dX6_ask_50 : decode cX6_ask 50 = .ok (.iaload, 1) := by decide +kernel
theorem dX6_ask_51 : decode cX6_ask 51 = .ok (.iload_n 2, 1) := by decide +kernel
theorem dX6_ask_52 : decode cX6_ask 52 = .ok (.invokestatic 133, 3) := by decide +kernel
theorem dX6_ask_55 : decode cX6_ask 55 = .ok (.ifCond .eq 12, 3) := by decide +kernel
theorem dX6_ask_58 : decode cX6_ask 58 = .ok (.aload_n 0, 1) := by decide +kernel
theorem dX6_ask_59 : decode cX6_ask 59 = .ok (.getfield 34, 3) := by decide +kernel
theorem dX6_ask_62 : decode cX6_ask 62 = .ok (.iload_n 1, 1) := by decide +kernel
theorem dX6_ask_63 : decode cX6_ask 63 = .ok (.iaload, 1) := by decide +kernel
theorem dX6_ask_64 : decode cX6_ask 64 = .ok (.goto 5, 3) := by decide +kernel
theorem dX6_ask_67 : decode cX6_ask 67 = .ok (.ldc 137, 2) := by decide +kernel
theorem dX6_ask_69 : decode cX6_ask 69 = .ok (.ireturn, 1) := by decide +kernel
theorem dX6_item_0 : decode cX6_item 0 = .ok (.iload_n 1, 1) := by decide +kernel
theorem dX6_item_1 : decode cX6_item 1 = .ok (.invokestatic 330, 3) := by decide +kernel
theorem dX6_item_4 : decode cX6_item 4 = .ok (.ifCond .ne 6, 3) := by decide +kernel
theorem dX6_item_7 : decode cX6_item 7 = .ok (.ldc 110, 2) := by decide +kernel
theorem dX6_item_9 : decode cX6_item 9 = .ok (.ireturn, 1) := by decide +kernel
theorem dX6_item_10 : decode cX6_item 10 = .ok (.aload_n 0, 1) := by decide +kernel
theorem dX6_item_11 : decode cX6_item 11 = .ok (.getfield 28, 3) := by decide +kernel
theorem dX6_item_14 : decode cX6_item 14 = .ok (.iload_n 1, 1) := by decide +kernel
theorem dX6_item_15 : decode cX6_item 15 = .ok (.iaload, 1) := by decide +kernel
theorem dX6_item_16 : decode cX6_item 16 = .ok (.iconst 2, 1) := by decide +kernel
theorem dX6_item_17 : decode cX6_item 17 = .ok (.if_icmp .eq 21, 3) := by decide +kernel
theorem dX6_item_20 : decode cX6_item 20 = .ok (.aload_n 0, 1) := by decide +kernel
theorem dX6_item_21 : decode cX6_item 21 = .ok (.getfield 28, 3) := by decide +kernel
theorem dX6_item_24 : decode cX6_item 24 = .ok (.iload_n 1, 1) := by decide +kernel
theorem dX6_item_25 : decode cX6_item 25 = .ok (.iaload, 1) := by decide +kernel
theorem dX6_item_26 : decode cX6_item 26 = .ok (.ifCond .ne 9, 3) := by decide +kernel
theorem dX6_item_29 : decode cX6_item 29 = .ok (.ldc_w 319, 3) := by decide +kernel
theorem dX6_item_32 : decode cX6_item 32 = .ok (.goto 5, 3) := by decide +kernel
theorem dX6_item_35 : decode cX6_item 35 = .ok (.ldc 137, 2) := by decide +kernel
theorem dX6_item_37 : decode cX6_item 37 = .ok (.ireturn, 1) := by decide +kernel
theorem dX6_item_38 : decode cX6_item 38 = .ok (.iload_n 2, 1) := by decide +kernel
theorem dX6_item_39 : decode cX6_item 39 = .ok (.i2l, 1) := by decide +kernel
theorem dX6_item_40 : decode cX6_item 40 = .ok (.lconst 0, 1) := by decide +kernel
theorem dX6_item_41 : decode cX6_item 41 = .ok (.aload_n 0, 1) := by decide +kernel
theorem dX6_item_42 : decode cX6_item 42 = .ok (.getfield 37, 3) := by decide +kernel
theorem dX6_item_45 : decode cX6_item 45 = .ok (.iload_n 1, 1) := by decide +kernel
theorem dX6_item_46 : decode cX6_item 46 = .ok (.iaload, 1) := by decide +kernel
theorem dX6_item_47 : decode cX6_item 47 = .ok (.iconst 1, 1) := by decide +kernel
theorem dX6_item_48 : decode cX6_item 48 = .ok (.isub, 1) := by decide +kernel
theorem dX6_item_49 : decode cX6_item 49 = .ok (.i2l, 1) := by decide +kernel
theorem dX6_item_50 : decode cX6_item 50 = .ok (.invokestatic 65, 3) := by decide +kernel
theorem dX6_item_53 : decode cX6_item 53 = .ok (.ifCond .ne 7, 3) := by decide +kernel
theorem dX6_item_56 : decode cX6_item 56 = .ok (.ldc_w 320, 3) := by decide +kernel
theorem dX6_item_59 : decode cX6_item 59 = .ok (.ireturn, 1) := by decide +kernel
theorem dX6_item_60 : decode cX6_item 60 = .ok (.aload_n 0, 1) := by decide +kernel
theorem dX6_item_61 : decode cX6_item 61 = .ok (.getfield 40, 3) := by decide +kernel
theorem dX6_item_64 : decode cX6_item 64 = .ok (.bipush 24, 2) := by decide +kernel
theorem dX6_item_66 : decode cX6_item 66 = .ok (.iload_n 1, 1) := by decide +kernel
theorem dX6_item_67 : decode cX6_item 67 = .ok (.imul, 1) := by decide +kernel
theorem dX6_item_68 : decode cX6_item 68 = .ok (.iload_n 2, 1) := by decide +kernel
theorem dX6_item_69 : decode cX6_item 69 = .ok (.iadd, 1) := by decide +kernel
theorem dX6_item_70 : decode cX6_item 70 = .ok (.iaload, 1) := by decide +kernel
theorem dX6_item_71 : decode cX6_item 71 = .ok (.istore_n 3, 1) := by decide +kernel
theorem dX6_item_72 : decode cX6_item 72 = .ok (.iload_n 3, 1) := by decide +kernel
theorem dX6_item_73 : decode cX6_item 73 = .ok (.ldc 64, 2) := by decide +kernel
theorem dX6_item_75 : decode cX6_item 75 = .ok (.if_icmp .ne 8, 3) := by decide +kernel
theorem dX6_item_78 : decode cX6_item 78 = .ok (.ldc 137, 2) := by decide +kernel
theorem dX6_item_80 : decode cX6_item 80 = .ok (.goto 4, 3) := by decide +kernel
theorem dX6_item_83 : decode cX6_item 83 = .ok (.iload_n 3, 1) := by decide +kernel
theorem dX6_item_84 : decode cX6_item 84 = .ok (.ireturn, 1) := by decide +kernel
theorem dX6_rest_0 : decode cX6_rest 0 = .ok (.iload_n 1, 1) := by decide +kernel
theorem dX6_rest_1 : decode cX6_rest 1 = .ok (.invokestatic 330, 3) := by decide +kernel
theorem dX6_rest_4 : decode cX6_rest 4 = .ok (.ifCond .ne 6, 3) := by decide +kernel
theorem dX6_rest_7 : decode cX6_rest 7 = .ok (.ldc 110, 2) := by decide +kernel
theorem dX6_rest_9 : decode cX6_rest 9 = .ok (.ireturn, 1) := by decide +kernel
theorem dX6_rest_10 : decode cX6_rest 10 = .ok (.aload_n 0, 1) := by decide +kernel
theorem dX6_rest_11 : decode cX6_rest 11 = .ok (.getfield 28, 3) := by decide +kernel
theorem dX6_rest_14 : decode cX6_rest 14 = .ok (.iload_n 1, 1) := by decide +kernel
theorem dX6_rest_15 : decode cX6_rest 15 = .ok (.iaload, 1) := by decide +kernel
theorem dX6_rest_16 : decode cX6_rest 16 = .ok (.iconst 3, 1) := by decide +kernel
theorem dX6_rest_17 : decode cX6_rest 17 = .ok (.if_icmp .eq 21, 3) := by decide +kernel
theorem dX6_rest_20 : decode cX6_rest 20 = .ok (.aload_n 0, 1) := by decide +kernel
theorem dX6_rest_21 : decode cX6_rest 21 = .ok (.getfield 28, 3) := by decide +kernel
theorem dX6_rest_24 : decode cX6_rest 24 = .ok (.iload_n 1, 1) := by decide +kernel
theorem dX6_rest_25 : decode cX6_rest 25 = .ok (.iaload, 1) := by decide +kernel
theorem dX6_rest_26 : decode cX6_rest 26 = .ok (.ifCond .ne 9, 3) := by decide +kernel
theorem dX6_rest_29 : decode cX6_rest 29 = .ok (.ldc_w 319, 3) := by decide +kernel
theorem dX6_rest_32 : decode cX6_rest 32 = .ok (.goto 5, 3) := by decide +kernel
theorem dX6_rest_35 : decode cX6_rest 35 = .ok (.ldc 137, 2) := by decide +kernel
theorem dX6_rest_37 : decode cX6_rest 37 = .ok (.ireturn, 1) := by decide +kernel
theorem dX6_rest_38 : decode cX6_rest 38 = .ok (.iload_n 2, 1) := by decide +kernel
theorem dX6_rest_39 : decode cX6_rest 39 = .ok (.ifCond .ne 9, 3) := by decide +kernel
theorem dX6_rest_42 : decode cX6_rest 42 = .ok (.ldc_w 333, 3) := by decide +kernel
theorem dX6_rest_45 : decode cX6_rest 45 = .ok (.goto 11, 3) := by decide +kernel
theorem dX6_rest_48 : decode cX6_rest 48 = .ok (.aload_n 0, 1) := by decide +kernel
theorem dX6_rest_49 : decode cX6_rest 49 = .ok (.getfield 31, 3) := by decide +kernel
theorem dX6_rest_52 : decode cX6_rest 52 = .ok (.iload_n 1, 1) := by decide +kernel
theorem dX6_rest_53 : decode cX6_rest 53 = .ok (.iaload, 1) := by decide +kernel
theorem dX6_rest_54 : decode cX6_rest 54 = .ok (.iload_n 2, 1) := by decide +kernel
theorem dX6_rest_55 : decode cX6_rest 55 = .ok (.irem, 1) := by decide +kernel
theorem dX6_rest_56 : decode cX6_rest 56 = .ok (.ireturn, 1) := by decide +kernel
theorem dX6_tell_0 : decode cX6_tell 0 = .ok (.aload_n 0, 1) := by decide +kernel
theorem dX6_tell_1 : decode cX6_tell 1 = .ok (.getfield 334, 3) := by decide +kernel
theorem dX6_tell_4 : decode cX6_tell 4 = .ok (.bipush 60, 2) := by decide +kernel
theorem dX6_tell_6 : decode cX6_tell 6 = .ok (.if_icmp .ne 6, 3) := by decide +kernel
theorem dX6_tell_9 : decode cX6_tell 9 = .ok (.ldc 111, 2) := by decide +kernel
theorem dX6_tell_11 : decode cX6_tell 11 = .ok (.ireturn, 1) := by decide +kernel
theorem dX6_tell_12 : decode cX6_tell 12 = .ok (.aload_n 0, 1) := by decide +kernel
theorem dX6_tell_13 : decode cX6_tell 13 = .ok (.getfield 58, 3) := by decide +kernel
theorem dX6_tell_16 : decode cX6_tell 16 = .ok (.aload_n 0, 1) := by decide +kernel
theorem dX6_tell_17 : decode cX6_tell 17 = .ok (.getfield 334, 3) := by decide +kernel
theorem dX6_tell_20 : decode cX6_tell 20 = .ok (.iload_n 1, 1) := by decide +kernel
theorem dX6_tell_21 : decode cX6_tell 21 = .ok (.iastore, 1) := by decide +kernel
theorem dX6_tell_22 : decode cX6_tell 22 = .ok (.aload_n 0, 1) := by decide +kernel
theorem dX6_tell_23 : decode cX6_tell 23 = .ok (.dup, 1) := by decide +kernel
theorem dX6_tell_24 : decode cX6_tell 24 = .ok (.getfield 334, 3) := by decide +kernel
theorem dX6_tell_27 : decode cX6_tell 27 = .ok (.iconst 1, 1) := by decide +kernel
theorem dX6_tell_28 : decode cX6_tell 28 = .ok (.iadd, 1) := by decide +kernel
theorem dX6_tell_29 : decode cX6_tell 29 = .ok (.putfield 334, 3) := by decide +kernel
theorem dX6_tell_32 : decode cX6_tell 32 = .ok (.aload_n 0, 1) := by decide +kernel
theorem dX6_tell_33 : decode cX6_tell 33 = .ok (.getfield 334, 3) := by decide +kernel
theorem dX6_tell_36 : decode cX6_tell 36 = .ok (.ireturn, 1) := by decide +kernel
theorem dX6_setAside_0 : decode cX6_setAside 0 = .ok (.iconst 0, 1) := by decide +kernel
theorem dX6_setAside_1 : decode cX6_setAside 1 = .ok (.istore_n 3, 1) := by decide +kernel
theorem dX6_setAside_2 : decode cX6_setAside 2 = .ok (.iload_n 3, 1) := by decide +kernel
theorem dX6_setAside_3 : decode cX6_setAside 3 = .ok (.sipush 2871, 3) := by decide +kernel
theorem dX6_setAside_6 : decode cX6_setAside 6 = .ok (.if_icmp .ge 15, 3) := by decide +kernel
theorem dX6_setAside_9 : decode cX6_setAside 9 = .ok (.aload_n 2, 1) := by decide +kernel
theorem dX6_setAside_10 : decode cX6_setAside 10 = .ok (.iload_n 3, 1) := by decide +kernel
theorem dX6_setAside_11 : decode cX6_setAside 11 = .ok (.aload_n 1, 1) := by decide +kernel
theorem dX6_setAside_12 : decode cX6_setAside 12 = .ok (.iload_n 3, 1) := by decide +kernel
theorem dX6_setAside_13 : decode cX6_setAside 13 = .ok (.iaload, 1) := by decide +kernel
theorem dX6_setAside_14 : decode cX6_setAside 14 = .ok (.iastore, 1) := by decide +kernel
theorem dX6_setAside_15 : decode cX6_setAside 15 = .ok (.iinc 3 1, 3) := by decide +kernel
theorem dX6_setAside_18 : decode cX6_setAside 18 = .ok (.goto (-16), 3) := by decide +kernel
theorem dX6_setAside_21 : decode cX6_setAside 21 = .ok (.return_, 1) := by decide +kernel
theorem dX6_check_0 : decode cX6_check 0 = .ok (.aload_n 0, 1) := by decide +kernel
theorem dX6_check_1 : decode cX6_check 1 = .ok (.getfield 334, 3) := by decide +kernel
theorem dX6_check_4 : decode cX6_check 4 = .ok (.istore_n 2, 1) := by decide +kernel
theorem dX6_check_5 : decode cX6_check 5 = .ok (.aload_n 0, 1) := by decide +kernel
theorem dX6_check_6 : decode cX6_check 6 = .ok (.iconst 0, 1) := by decide +kernel
theorem dX6_check_7 : decode cX6_check 7 = .ok (.putfield 334, 3) := by decide +kernel
theorem dX6_check_10 : decode cX6_check 10 = .ok (.iload_n 1, 1) := by decide +kernel
theorem dX6_check_11 : decode cX6_check 11 = .ok (.i2l, 1) := by decide +kernel
theorem dX6_check_12 : decode cX6_check 12 = .ok (.lconst 1, 1) := by decide +kernel
theorem dX6_check_13 : decode cX6_check 13 = .ok (.ldc2_w 337, 3) := by decide +kernel
theorem dX6_check_16 : decode cX6_check 16 = .ok (.invokestatic 65, 3) := by decide +kernel
theorem dX6_check_19 : decode cX6_check 19 = .ok (.ifCond .ne 6, 3) := by decide +kernel
theorem dX6_check_22 : decode cX6_check 22 = .ok (.ldc 110, 2) := by decide +kernel
theorem dX6_check_24 : decode cX6_check 24 = .ok (.ireturn, 1) := by decide +kernel
theorem dX6_check_25 : decode cX6_check 25 = .ok (.aload_n 0, 1) := by decide +kernel
theorem dX6_check_26 : decode cX6_check 26 = .ok (.getfield 339, 3) := by decide +kernel
theorem dX6_check_29 : decode cX6_check 29 = .ok (.ifCond .ne 7, 3) := by decide +kernel
theorem dX6_check_32 : decode cX6_check 32 = .ok (.ldc_w 333, 3) := by decide +kernel
theorem dX6_check_35 : decode cX6_check 35 = .ok (.ireturn, 1) := by decide +kernel
theorem dX6_check_36 : decode cX6_check 36 = .ok (.aload_n 0, 1) := by decide +kernel
theorem dX6_check_37 : decode cX6_check 37 = .ok (.aload_n 0, 1) := by decide +kernel
theorem dX6_check_38 : decode cX6_check 38 = .ok (.getfield 7, 3) := by decide +kernel
theorem dX6_check_41 : decode cX6_check 41 = .ok (.aload_n 0, 1) := by decide +kernel
theorem dX6_check_42 : decode cX6_check 42 = .ok (.getfield 16, 3) := by decide +kernel
theorem dX6_check_45 : decode cX6_check 45 = .ok (.invokevirtual 343, 3) := by decide +kernel
theorem dX6_check_48 : decode cX6_check 48 = .ok (.aload_n 0, 1) := by decide +kernel
theorem dX6_check_49 : decode cX6_check 49 = .ok (.aload_n 0, 1) := by decide +kernel
theorem dX6_check_50 : decode cX6_check 50 = .ok (.getfield 13, 3) := by decide +kernel
theorem dX6_check_53 : decode cX6_check 53 = .ok (.aload_n 0, 1) := by decide +kernel
theorem dX6_check_54 : decode cX6_check 54 = .ok (.getfield 7, 3) := by decide +kernel
theorem dX6_check_57 : decode cX6_check 57 = .ok (.invokevirtual 343, 3) := by decide +kernel
theorem dX6_check_60 : decode cX6_check 60 = .ok (.iconst 0, 1) := by decide +kernel
theorem dX6_check_61 : decode cX6_check 61 = .ok (.istore_n 3, 1) := by decide +kernel
theorem dX6_check_62 : decode cX6_check 62 = .ok (.iconst 0, 1) := by decide +kernel
theorem dX6_check_63 : decode cX6_check 63 = .ok (.istore 4, 2) := by decide +kernel
theorem dX6_check_65 : decode cX6_check 65 = .ok (.iload 4, 2) := by decide +kernel
theorem dX6_check_67 : decode cX6_check 67 = .ok (.iload_n 1, 1) := by decide +kernel
theorem dX6_check_68 : decode cX6_check 68 = .ok (.if_icmp .ge 54, 3) := by decide +kernel
theorem dX6_check_71 : decode cX6_check 71 = .ok (.aload_n 0, 1) := by decide +kernel
theorem dX6_check_72 : decode cX6_check 72 = .ok (.getfield 7, 3) := by decide +kernel
theorem dX6_check_75 : decode cX6_check 75 = .ok (.iconst 2, 1) := by decide +kernel
theorem dX6_check_76 : decode cX6_check 76 = .ok (.iaload, 1) := by decide +kernel
theorem dX6_check_77 : decode cX6_check 77 = .ok (.sipush 9999, 3) := by decide +kernel
theorem dX6_check_80 : decode cX6_check 80 = .ok (.if_icmp .ge 42, 3) := by decide +kernel
theorem dX6_check_83 : decode cX6_check 83 = .ok (.aload_n 0, 1) := by decide +kernel
theorem dX6_check_84 : decode cX6_check 84 = .ok (.invokevirtual 179, 3) := by decide +kernel
theorem dX6_check_87 : decode cX6_check 87 = .ok (.aload_n 0, 1) := by decide +kernel
theorem dX6_check_88 : decode cX6_check 88 = .ok (.getfield 61, 3) := by decide +kernel
theorem dX6_check_91 : decode cX6_check 91 = .ok (.iload_n 3, 1) := by decide +kernel
theorem dX6_check_92 : decode cX6_check 92 = .ok (.aload_n 0, 1) := by decide +kernel
theorem dX6_check_93 : decode cX6_check 93 = .ok (.getfield 7, 3) := by decide +kernel
theorem dX6_check_96 : decode cX6_check 96 = .ok (.bipush 6, 2) := by decide +kernel
theorem dX6_check_98 : decode cX6_check 98 = .ok (.iaload, 1) := by decide +kernel
theorem dX6_check_99 : decode cX6_check 99 = .ok (.iastore, 1) := by decide +kernel
theorem dX6_check_100 : decode cX6_check 100 = .ok (.aload_n 0, 1) := by decide +kernel
theorem dX6_check_101 : decode cX6_check 101 = .ok (.getfield 61, 3) := by decide +kernel
theorem dX6_check_104 : decode cX6_check 104 = .ok (.iload_n 3, 1) := by decide +kernel
theorem dX6_check_105 : decode cX6_check 105 = .ok (.iconst 1, 1) := by decide +kernel
theorem dX6_check_106 : decode cX6_check 106 = .ok (.iadd, 1) := by decide +kernel
theorem dX6_check_107 : decode cX6_check 107 = .ok (.aload_n 0, 1) := by decide +kernel
theorem dX6_check_108 : decode cX6_check 108 = .ok (.iconst 2, 1) := by decide +kernel
theorem dX6_check_109 : decode cX6_check 109 = .ok (.invokevirtual 185, 3) := by decide +kernel
theorem dX6_check_112 : decode cX6_check 112 = .ok (.iastore, 1) := by decide +kernel
theorem dX6_check_113 : decode cX6_check 113 = .ok (.iinc 3 2, 3) := by decide +kernel
theorem dX6_check_116 : decode cX6_check 116 = .ok (.iinc 4 1, 3) := by decide +kernel
theorem dX6_check_119 : decode cX6_check 119 = .ok (.goto (-54), 3) := by decide +kernel
theorem dX6_check_122 : decode cX6_check 122 = .ok (.aload_n 0, 1) := by decide +kernel
theorem dX6_check_123 : decode cX6_check 123 = .ok (.aload_n 0, 1) := by decide +kernel
theorem dX6_check_124 : decode cX6_check 124 = .ok (.getfield 16, 3) := by decide +kernel
theorem dX6_check_127 : decode cX6_check 127 = .ok (.aload_n 0, 1) := by decide +kernel
theorem dX6_check_128 : decode cX6_check 128 = .ok (.getfield 7, 3) := by decide +kernel
theorem dX6_check_131 : decode cX6_check 131 = .ok (.invokevirtual 343, 3) := by decide +kernel
theorem dX6_check_134 : decode cX6_check 134 = .ok (.iconst 0, 1) := by decide +kernel
theorem dX6_check_135 : decode cX6_check 135 = .ok (.istore 4, 2) := by decide +kernel
theorem dX6_check_137 : decode cX6_check 137 = .ok (.iload 4, 2) := by decide +kernel
theorem dX6_check_139 : decode cX6_check 139 = .ok (.iload_n 2, 1) := by decide +kernel
theorem dX6_check_140 : decode cX6_check 140 = .ok (.if_icmp .ge 32, 3) := by decide +kernel
theorem dX6_check_143 : decode cX6_check 143 = .ok (.iload 4, 2) := by decide +kernel
theorem dX6_check_145 : decode cX6_check 145 = .ok (.iload_n 3, 1) := by decide +kernel
theorem dX6_check_146 : decode cX6_check 146 = .ok (.if_icmp .ge 26, 3) := by decide +kernel
theorem dX6_check_149 : decode cX6_check 149 = .ok (.aload_n 0, 1) := by decide +kernel
theorem dX6_check_150 : decode cX6_check 150 = .ok (.getfield 58, 3) := by decide +kernel
theorem dX6_check_153 : decode cX6_check 153 = .ok (.iload 4, 2) := by decide +kernel
theorem dX6_check_155 : decode cX6_check 155 = .ok (.iaload, 1) := by decide +kernel
theorem dX6_check_156 : decode cX6_check 156 = .ok (.aload_n 0, 1) := by decide +kernel
theorem dX6_check_157 : decode cX6_check 157 = .ok (.getfield 61, 3) := by decide +kernel
theorem dX6_check_160 : decode cX6_check 160 = .ok (.iload 4, 2) := by decide +kernel
theorem dX6_check_162 : decode cX6_check 162 = .ok (.iaload, 1) := by decide +kernel
theorem dX6_check_163 : decode cX6_check 163 = .ok (.if_icmp .ne 9, 3) := by decide +kernel
theorem dX6_check_166 : decode cX6_check 166 = .ok (.iinc 4 1, 3) := by decide +kernel
theorem dX6_check_169 : decode cX6_check 169 = .ok (.goto (-32), 3) := by decide +kernel
theorem dX6_check_172 : decode cX6_check 172 = .ok (.iload 4, 2) := by decide +kernel
theorem dX6_check_174 : decode cX6_check 174 = .ok (.iload_n 2, 1) := by decide +kernel
theorem dX6_check_175 : decode cX6_check 175 = .ok (.if_icmp .ne 13, 3) := by decide +kernel
theorem dX6_check_178 : decode cX6_check 178 = .ok (.iload 4, 2) := by decide +kernel
theorem dX6_check_180 : decode cX6_check 180 = .ok (.iload_n 3, 1) := by decide +kernel
theorem dX6_check_181 : decode cX6_check 181 = .ok (.if_icmp .ne 7, 3) := by decide +kernel
theorem dX6_check_184 : decode cX6_check 184 = .ok (.iconst 0, 1) := by decide +kernel
theorem dX6_check_185 : decode cX6_check 185 = .ok (.goto 7, 3) := by decide +kernel
theorem dX6_check_188 : decode cX6_check 188 = .ok (.iconst 1, 1) := by decide +kernel
theorem dX6_check_189 : decode cX6_check 189 = .ok (.iload 4, 2) := by decide +kernel
theorem dX6_check_191 : decode cX6_check 191 = .ok (.iadd, 1) := by decide +kernel
theorem dX6_check_192 : decode cX6_check 192 = .ok (.ireturn, 1) := by decide +kernel
theorem dX6_keep_0 : decode cX6_keep 0 = .ok (.aload_n 0, 1) := by decide +kernel
theorem dX6_keep_1 : decode cX6_keep 1 = .ok (.iconst 1, 1) := by decide +kernel
theorem dX6_keep_2 : decode cX6_keep 2 = .ok (.putfield 339, 3) := by decide +kernel
theorem dX6_keep_5 : decode cX6_keep 5 = .ok (.aload_n 0, 1) := by decide +kernel
theorem dX6_keep_6 : decode cX6_keep 6 = .ok (.aload_n 0, 1) := by decide +kernel
theorem dX6_keep_7 : decode cX6_keep 7 = .ok (.getfield 7, 3) := by decide +kernel
theorem dX6_keep_10 : decode cX6_keep 10 = .ok (.aload_n 0, 1) := by decide +kernel
theorem dX6_keep_11 : decode cX6_keep 11 = .ok (.getfield 13, 3) := by decide +kernel
theorem dX6_keep_14 : decode cX6_keep 14 = .ok (.invokevirtual 343, 3) := by decide +kernel
theorem dX6_keep_17 : decode cX6_keep 17 = .ok (.aload_n 0, 1) := by decide +kernel
theorem dX6_keep_18 : decode cX6_keep 18 = .ok (.getfield 7, 3) := by decide +kernel
theorem dX6_keep_21 : decode cX6_keep 21 = .ok (.iconst 0, 1) := by decide +kernel
theorem dX6_keep_22 : decode cX6_keep 22 = .ok (.iaload, 1) := by decide +kernel
theorem dX6_keep_23 : decode cX6_keep 23 = .ok (.ireturn, 1) := by decide +kernel
theorem dX6_back_0 : decode cX6_back 0 = .ok (.aload_n 0, 1) := by decide +kernel
theorem dX6_back_1 : decode cX6_back 1 = .ok (.getfield 339, 3) := by decide +kernel
theorem dX6_back_4 : decode cX6_back 4 = .ok (.ifCond .ne 7, 3) := by decide +kernel
theorem dX6_back_7 : decode cX6_back 7 = .ok (.ldc_w 333, 3) := by decide +kernel
theorem dX6_back_10 : decode cX6_back 10 = .ok (.ireturn, 1) := by decide +kernel
theorem dX6_back_11 : decode cX6_back 11 = .ok (.aload_n 0, 1) := by decide +kernel
theorem dX6_back_12 : decode cX6_back 12 = .ok (.aload_n 0, 1) := by decide +kernel
theorem dX6_back_13 : decode cX6_back 13 = .ok (.getfield 13, 3) := by decide +kernel
theorem dX6_back_16 : decode cX6_back 16 = .ok (.aload_n 0, 1) := by decide +kernel
theorem dX6_back_17 : decode cX6_back 17 = .ok (.getfield 7, 3) := by decide +kernel
theorem dX6_back_20 : decode cX6_back 20 = .ok (.invokevirtual 343, 3) := by decide +kernel
theorem dX6_back_23 : decode cX6_back 23 = .ok (.aload_n 0, 1) := by decide +kernel
theorem dX6_back_24 : decode cX6_back 24 = .ok (.getfield 7, 3) := by decide +kernel
theorem dX6_back_27 : decode cX6_back 27 = .ok (.iconst 0, 1) := by decide +kernel
theorem dX6_back_28 : decode cX6_back 28 = .ok (.iaload, 1) := by decide +kernel
theorem dX6_back_29 : decode cX6_back 29 = .ok (.ireturn, 1) := by decide +kernel
theorem dX6_count_0 : decode cX6_count 0 = .ok (.iload_n 1, 1) := by decide +kernel
theorem dX6_count_1 : decode cX6_count 1 = .ok (.tableswitch 101 0 8 #[51, 58, 65, 65, 65, 76, 83, 88, 93], 51) := by decide +kernel
theorem dX6_count_52 : decode cX6_count 52 = .ok (.aload_n 0, 1) := by decide +kernel
theorem dX6_count_53 : decode cX6_count 53 = .ok (.getfield 7, 3) := by decide +kernel
theorem dX6_count_56 : decode cX6_count 56 = .ok (.iconst 0, 1) := by decide +kernel
theorem dX6_count_57 : decode cX6_count 57 = .ok (.iaload, 1) := by decide +kernel
theorem dX6_count_58 : decode cX6_count 58 = .ok (.ireturn, 1) := by decide +kernel
theorem dX6_count_59 : decode cX6_count 59 = .ok (.aload_n 0, 1) := by decide +kernel
theorem dX6_count_60 : decode cX6_count 60 = .ok (.getfield 7, 3) := by decide +kernel
theorem dX6_count_63 : decode cX6_count 63 = .ok (.iconst 2, 1) := by decide +kernel
theorem dX6_count_64 : decode cX6_count 64 = .ok (.iaload, 1) := by decide +kernel
theorem dX6_count_65 : decode cX6_count 65 = .ok (.ireturn, 1) := by decide +kernel
theorem dX6_count_66 : decode cX6_count 66 = .ok (.aload_n 0, 1) := by decide +kernel
theorem dX6_count_67 : decode cX6_count 67 = .ok (.getfield 7, 3) := by decide +kernel
theorem dX6_count_70 : decode cX6_count 70 = .ok (.iconst 3, 1) := by decide +kernel
theorem dX6_count_71 : decode cX6_count 71 = .ok (.iload_n 1, 1) := by decide +kernel
theorem dX6_count_72 : decode cX6_count 72 = .ok (.iadd, 1) := by decide +kernel
theorem dX6_count_73 : decode cX6_count 73 = .ok (.iconst 2, 1) := by decide +kernel
theorem dX6_count_74 : decode cX6_count 74 = .ok (.isub, 1) := by decide +kernel
theorem dX6_count_75 : decode cX6_count 75 = .ok (.iaload, 1) := by decide +kernel
theorem dX6_count_76 : decode cX6_count 76 = .ok (.ireturn, 1) := by decide +kernel
theorem dX6_count_77 : decode cX6_count 77 = .ok (.aload_n 0, 1) := by decide +kernel
theorem dX6_count_78 : decode cX6_count 78 = .ok (.getfield 7, 3) := by decide +kernel
theorem dX6_count_81 : decode cX6_count 81 = .ok (.iconst 1, 1) := by decide +kernel
theorem dX6_count_82 : decode cX6_count 82 = .ok (.iaload, 1) := by decide +kernel
theorem dX6_count_83 : decode cX6_count 83 = .ok (.ireturn, 1) := by decide +kernel
theorem dX6_count_84 : decode cX6_count 84 = .ok (.aload_n 0, 1) := by decide +kernel
theorem dX6_count_85 : decode cX6_count 85 = .ok (.getfield 334, 3) := by decide +kernel
theorem dX6_count_88 : decode cX6_count 88 = .ok (.ireturn, 1) := by decide +kernel
theorem dX6_count_89 : decode cX6_count 89 = .ok (.aload_n 0, 1) := by decide +kernel
theorem dX6_count_90 : decode cX6_count 90 = .ok (.getfield 211, 3) := by decide +kernel
theorem dX6_count_93 : decode cX6_count 93 = .ok (.ireturn, 1) := by decide +kernel
theorem dX6_count_94 : decode cX6_count 94 = .ok (.aload_n 0, 1) := by decide +kernel
theorem dX6_count_95 : decode cX6_count 95 = .ok (.getfield 7, 3) := by decide +kernel
theorem dX6_count_98 : decode cX6_count 98 = .ok (.bipush 8, 2) := by decide +kernel
theorem dX6_count_100 : decode cX6_count 100 = .ok (.iaload, 1) := by decide +kernel
theorem dX6_count_101 : decode cX6_count 101 = .ok (.ireturn, 1) := by decide +kernel
theorem dX6_count_102 : decode cX6_count 102 = .ok (.ldc 110, 2) := by decide +kernel
theorem dX6_count_104 : decode cX6_count 104 = .ok (.ireturn, 1) := by decide +kernel
