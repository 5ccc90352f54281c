theorem dX5_init_0 : decode cX5_init 0 = .ok (.aload_n 0, 1) := by decide +kernel
theorem dX5_init_1 : decode cX5_init 1 = .ok (.invokespecial 1, 3) := by decide +kernel
theorem dX5_init_4 : decode cX5_init 4 = .ok (.aload_n 0, 1) := by decide +kernel
theorem dX5_init_5 : decode cX5_init 5 = .ok (.new 7, 3) := by decide +kernel
theorem dX5_init_8 : decode cX5_init 8 = .ok (.dup, 1) := by decide +kernel
theorem dX5_init_9 : decode cX5_init 9 = .ok (.invokespecial 9, 3) := by decide +kernel
theorem dX5_init_12 : decode cX5_init 12 = .ok (.putfield 10, 3) := by decide +kernel
theorem dX5_init_15 : decode cX5_init 15 = .ok (.aload_n 0, 1) := by decide +kernel
theorem dX5_init_16 : decode cX5_init 16 = .ok (.new 16, 3) := by decide +kernel
theorem dX5_init_19 : decode cX5_init 19 = .ok (.dup, 1) := by decide +kernel
theorem dX5_init_20 : decode cX5_init 20 = .ok (.aload_n 0, 1) := by decide +kernel
theorem dX5_init_21 : decode cX5_init 21 = .ok (.getfield 10, 3) := by decide +kernel
theorem dX5_init_24 : decode cX5_init 24 = .ok (.invokespecial 18, 3) := by decide +kernel
theorem dX5_init_27 : decode cX5_init 27 = .ok (.putfield 21, 3) := by decide +kernel
theorem dX5_init_30 : decode cX5_init 30 = .ok (.aload_n 0, 1) := by decide +kernel
theorem dX5_init_31 : decode cX5_init 31 = .ok (.new 16, 3) := by decide +kernel
theorem dX5_init_34 : decode cX5_init 34 = .ok (.dup, 1) := by decide +kernel
theorem dX5_init_35 : decode cX5_init 35 = .ok (.aload_n 0, 1) := by decide +kernel
theorem dX5_init_36 : decode cX5_init 36 = .ok (.getfield 10, 3) := by decide +kernel
theorem dX5_init_39 : decode cX5_init 39 = .ok (.invokespecial 18, 3) := by decide +kernel
theorem dX5_init_42 : decode cX5_init 42 = .ok (.putfield 25, 3) := by decide +kernel
theorem dX5_init_45 : decode cX5_init 45 = .ok (.aload_n 0, 1) := by decide +kernel
theorem dX5_init_46 : decode cX5_init 46 = .ok (.new 16, 3) := by decide +kernel
theorem dX5_init_49 : decode cX5_init 49 = .ok (.dup, 1) := by decide +kernel
theorem dX5_init_50 : decode cX5_init 50 = .ok (.aload_n 0, 1) := by decide +kernel
theorem dX5_init_51 : decode cX5_init 51 = .ok (.getfield 10, 3) := by decide +kernel
theorem dX5_init_54 : decode cX5_init 54 = .ok (.invokespecial 18, 3) := by decide +kernel
theorem dX5_init_57 : decode cX5_init 57 = .ok (.putfield 28, 3) := by decide +kernel
theorem dX5_init_60 : decode cX5_init 60 = .ok (.aload_n 0, 1) := by decide +kernel
theorem dX5_init_61 : decode cX5_init 61 = .ok (.new 31, 3) := by decide +kernel
theorem dX5_init_64 : decode cX5_init 64 = .ok (.dup, 1) := by decide +kernel
theorem dX5_init_65 : decode cX5_init 65 = .ok (.invokespecial 33, 3) := by decide +kernel
theorem dX5_init_68 : decode cX5_init 68 = .ok (.putfield 34, 3) := by decide +kernel
theorem dX5_init_71 : decode cX5_init 71 = .ok (.aload_n 0, 1) := by decide +kernel
theorem dX5_init_72 : decode cX5_init 72 = .ok (.bipush 96, 2) := by decide +kernel
theorem dX5_init_74 : decode cX5_init 74 = .ok (.newarray .int, 2) := by decide +kernel
theorem dX5_init_76 : decode cX5_init 76 = .ok (.putfield 38, 3) := by decide +kernel
theorem dX5_init_79 : decode cX5_init 79 = .ok (.aload_n 0, 1) := by decide +kernel
theorem dX5_init_80 : decode cX5_init 80 = .ok (.iconst 4, 1) := by decide +kernel
theorem dX5_init_81 : decode cX5_init 81 = .ok (.anewarray 42, 3) := by decide +kernel
theorem dX5_init_84 : decode cX5_init 84 = .ok (.putfield 44, 3) := by decide +kernel
theorem dX5_init_87 : decode cX5_init 87 = .ok (.aload_n 0, 1) := by decide +kernel
theorem dX5_init_88 : decode cX5_init 88 = .ok (.iconst 5, 1) := by decide +kernel
theorem dX5_init_89 : decode cX5_init 89 = .ok (.anewarray 48, 3) := by decide +kernel
theorem dX5_init_92 : decode cX5_init 92 = .ok (.putfield 50, 3) := by decide +kernel
theorem dX5_init_95 : decode cX5_init 95 = .ok (.aload_n 0, 1) := by decide +kernel
theorem dX5_init_96 : decode cX5_init 96 = .ok (.bipush 60, 2) := by decide +kernel
theorem dX5_init_98 : decode cX5_init 98 = .ok (.newarray .int, 2) := by decide +kernel
theorem dX5_init_100 : decode cX5_init 100 = .ok (.putfield 54, 3) := by decide +kernel
theorem dX5_init_103 : decode cX5_init 103 = .ok (.aload_n 0, 1) := by decide +kernel
theorem dX5_init_104 : decode cX5_init 104 = .ok (.bipush 10, 2) := by decide +kernel
theorem dX5_init_106 : decode cX5_init 106 = .ok (.newarray .int, 2) := by decide +kernel
theorem dX5_init_108 : decode cX5_init 108 = .ok (.putfield 57, 3) := by decide +kernel
theorem dX5_init_111 : decode cX5_init 111 = .ok (.iconst 0, 1) := by decide +kernel
theorem dX5_init_112 : decode cX5_init 112 = .ok (.istore_n 1, 1) := by decide +kernel
theorem dX5_init_113 : decode cX5_init 113 = .ok (.iload_n 1, 1) := by decide +kernel
theorem dX5_init_114 : decode cX5_init 114 = .ok (.iconst 4, 1) := by decide +kernel
theorem dX5_init_115 : decode cX5_init 115 = .ok (.if_icmp .ge 22, 3) := by decide +kernel
theorem dX5_init_118 : decode cX5_init 118 = .ok (.aload_n 0, 1) := by decide +kernel
theorem dX5_init_119 : decode cX5_init 119 = .ok (.getfield 44, 3) := by decide +kernel
theorem dX5_init_122 : decode cX5_init 122 = .ok (.iload_n 1, 1) := by decide +kernel
theorem dX5_init_123 : decode cX5_init 123 = .ok (.new 42, 3) := by decide +kernel
theorem dX5_init_126 : decode cX5_init 126 = .ok (.dup, 1) := by decide +kernel
theorem dX5_init_127 : decode cX5_init 127 = .ok (.invokespecial 60, 3) := by decide +kernel
theorem dX5_init_130 : decode cX5_init 130 = .ok (.aastore, 1) := by decide +kernel
theorem dX5_init_131 : decode cX5_init 131 = .ok (.iinc 1 1, 3) := by decide +kernel
theorem dX5_init_134 : decode cX5_init 134 = .ok (.goto (-21), 3) := by decide +kernel
theorem dX5_init_137 : decode cX5_init 137 = .ok (.iconst 0, 1) := by decide +kernel
theorem dX5_init_138 : decode cX5_init 138 = .ok (.istore_n 1, 1) := by decide +kernel
theorem dX5_init_139 : decode cX5_init 139 = .ok (.iload_n 1, 1) := by decide +kernel
theorem dX5_init_140 : decode cX5_init 140 = .ok (.iconst 5, 1) := by decide +kernel
theorem dX5_init_141 : decode cX5_init 141 = .ok (.if_icmp .ge 22, 3) := by decide +kernel
theorem dX5_init_144 : decode cX5_init 144 = .ok (.aload_n 0, 1) := by decide +kernel
theorem dX5_init_145 : decode cX5_init 145 = .ok (.getfield 50, 3) := by decide +kernel
theorem dX5_init_148 : decode cX5_init 148 = .ok (.iload_n 1, 1) := by decide +kernel
theorem dX5_init_149 : decode cX5_init 149 = .ok (.new 48, 3) := by decide +kernel
theorem dX5_init_152 : decode cX5_init 152 = .ok (.dup, 1) := by decide +kernel
theorem dX5_init_153 : decode cX5_init 153 = .ok (.invokespecial 61, 3) := by decide +kernel
theorem dX5_init_156 : decode cX5_init 156 = .ok (.aastore, 1) := by decide +kernel
theorem dX5_init_157 : decode cX5_init 157 = .ok (.iinc 1 1, 3) := by decide +kernel
theorem dX5_init_160 : decode cX5_init 160 = .ok (.goto (-21), 3) := by decide +kernel
theorem dX5_init_163 : decode cX5_init 163 = .ok (.return_, 1) := by decide +kernel
theorem dX5_writes_0 : decode cX5_writes 0 = .ok (.iload_n 1, 1) := by decide +kernel
theorem dX5_writes_1 : decode cX5_writes 1 = .ok (.invokestatic 62, 3) := by decide +kernel
theorem dX5_writes_4 : decode cX5_writes 4 = .ok (.ifCond .eq 32, 3) := by decide +kernel
theorem dX5_writes_7 : decode cX5_writes 7 = .ok (.iload_n 2, 1) := by decide +kernel
theorem dX5_writes_8 : decode cX5_writes 8 = .ok (.iconst 0, 1) := by decide +kernel
theorem dX5_writes_9 : decode cX5_writes 9 = .ok (.bipush 99, 2) := by decide +kernel
theorem dX5_writes_11 : decode cX5_writes 11 = .ok (.invokestatic 66, 3) := by decide +kernel
theorem dX5_writes_14 : decode cX5_writes 14 = .ok (.ifCond .eq 22, 3) := by decide +kernel
theorem dX5_writes_17 : decode cX5_writes 17 = .ok (.iload_n 3, 1) := by decide +kernel
theorem dX5_writes_18 : decode cX5_writes 18 = .ok (.iconst 0, 1) := by decide +kernel
theorem dX5_writes_19 : decode cX5_writes 19 = .ok (.sipush 9999, 3) := by decide +kernel
theorem dX5_writes_22 : decode cX5_writes 22 = .ok (.invokestatic 66, 3) := by decide +kernel
theorem dX5_writes_25 : decode cX5_writes 25 = .ok (.ifCond .eq 11, 3) := by decide +kernel
theorem dX5_writes_28 : decode cX5_writes 28 = .ok (.iload 4, 2) := by decide +kernel
theorem dX5_writes_30 : decode cX5_writes 30 = .ok (.invokestatic 70, 3) := by decide +kernel
theorem dX5_writes_33 : decode cX5_writes 33 = .ok (.ifCond .ne 6, 3) := by decide +kernel
theorem dX5_writes_36 : decode cX5_writes 36 = .ok (.ldc 73, 2) := by decide +kernel
theorem dX5_writes_38 : decode cX5_writes 38 = .ok (.ireturn, 1) := by decide +kernel
theorem dX5_writes_39 : decode cX5_writes 39 = .ok (.aload_n 0, 1) := by decide +kernel
theorem dX5_writes_40 : decode cX5_writes 40 = .ok (.getfield 21, 3) := by decide +kernel
theorem dX5_writes_43 : decode cX5_writes 43 = .ok (.getfield 74, 3) := by decide +kernel
theorem dX5_writes_46 : decode cX5_writes 46 = .ok (.bipush 10, 2) := by decide +kernel
theorem dX5_writes_48 : decode cX5_writes 48 = .ok (.if_icmp .lt 6, 3) := by decide +kernel
theorem dX5_writes_51 : decode cX5_writes 51 = .ok (.ldc 78, 2) := by decide +kernel
theorem dX5_writes_53 : decode cX5_writes 53 = .ok (.ireturn, 1) := by decide +kernel
theorem dX5_writes_54 : decode cX5_writes 54 = .ok (.aload_n 0, 1) := by decide +kernel
theorem dX5_writes_55 : decode cX5_writes 55 = .ok (.getfield 21, 3) := by decide +kernel
theorem dX5_writes_58 : decode cX5_writes 58 = .ok (.iload_n 1, 1) := by decide +kernel
theorem dX5_writes_59 : decode cX5_writes 59 = .ok (.iload_n 2, 1) := by decide +kernel
theorem dX5_writes_60 : decode cX5_writes 60 = .ok (.iload_n 3, 1) := by decide +kernel
theorem dX5_writes_61 : decode cX5_writes 61 = .ok (.iload 4, 2) := by decide +kernel
theorem dX5_writes_63 : decode cX5_writes 63 = .ok (.invokevirtual 79, 3) := by decide +kernel
theorem dX5_writes_66 : decode cX5_writes 66 = .ok (.ireturn, 1) := by decide +kernel
theorem dX5_told_0 : decode cX5_told 0 = .ok (.aload_n 0, 1) := by decide +kernel
theorem dX5_told_1 : decode cX5_told 1 = .ok (.iload_n 1, 1) := by decide +kernel
theorem dX5_told_2 : decode cX5_told 2 = .ok (.invokevirtual 83, 3) := by decide +kernel
theorem dX5_told_5 : decode cX5_told 5 = .ok (.ifCond .ne 6, 3) := by decide +kernel
theorem dX5_told_8 : decode cX5_told 8 = .ok (.ldc 73, 2) := by decide +kernel
theorem dX5_told_10 : decode cX5_told 10 = .ok (.ireturn, 1) := by decide +kernel
theorem dX5_told_11 : decode cX5_told 11 = .ok (.iload_n 2, 1) := by decide +kernel
theorem dX5_told_12 : decode cX5_told 12 = .ok (.tableswitch 160 0 8 #[52, 62, 72, 82, 92, 102, 111, 120, 129], 52) := by decide +kernel
theorem dX5_told_64 : decode cX5_told 64 = .ok (.aload_n 0, 1) := by decide +kernel
theorem dX5_told_65 : decode cX5_told 65 = .ok (.getfield 21, 3) := by decide +kernel
theorem dX5_told_68 : decode cX5_told 68 = .ok (.getfield 86, 3) := by decide +kernel
theorem dX5_told_71 : decode cX5_told 71 = .ok (.iload_n 1, 1) := by decide +kernel
theorem dX5_told_72 : decode cX5_told 72 = .ok (.iaload, 1) := by decide +kernel
theorem dX5_told_73 : decode cX5_told 73 = .ok (.ireturn, 1) := by decide +kernel
theorem dX5_told_74 : decode cX5_told 74 = .ok (.aload_n 0, 1) := by decide +kernel
theorem dX5_told_75 : decode cX5_told 75 = .ok (.getfield 21, 3) := by decide +kernel
theorem dX5_told_78 : decode cX5_told 78 = .ok (.getfield 89, 3) := by decide +kernel
theorem dX5_told_81 : decode cX5_told 81 = .ok (.iload_n 1, 1) := by decide +kernel
theorem dX5_told_82 : decode cX5_told 82 = .ok (.iaload, 1) := by decide +kernel
theorem dX5_told_83 : decode cX5_told 83 = .ok (.ireturn, 1) := by decide +kernel
theorem dX5_told_84 : decode cX5_told 84 = .ok (.aload_n 0, 1) := by decide +kernel
theorem dX5_told_85 : decode cX5_told 85 = .ok (.getfield 21, 3) := by decide +kernel
theorem dX5_told_88 : decode cX5_told 88 = .ok (.getfield 92, 3) := by decide +kernel
theorem dX5_told_91 : decode cX5_told 91 = .ok (.iload_n 1, 1) := by decide +kernel
theorem dX5_told_92 : decode cX5_told 92 = .ok (.iaload, 1) := by decide +kernel
theorem dX5_told_93 : decode cX5_told 93 = .ok (.ireturn, 1) := by decide +kernel
theorem dX5_told_94 : decode cX5_told 94 = .ok (.aload_n 0, 1) := by decide +kernel
theorem dX5_told_95 : decode cX5_told 95 = .ok (.getfield 21, 3) := by decide +kernel
theorem dX5_told_98 : decode cX5_told 98 = .ok (.getfield 95, 3) := by decide +kernel
theorem dX5_told_101 : decode cX5_told 101 = .ok (.iload_n 1, 1) := by decide +kernel
theorem dX5_told_102 : decode cX5_told 102 = .ok (.iaload, 1) := by decide +kernel
theorem dX5_told_103 : decode cX5_told 103 = .ok (.ireturn, 1) := by decide +kernel
theorem dX5_told_104 : decode cX5_told 104 = .ok (.aload_n 0, 1) := by decide +kernel
theorem dX5_told_105 : decode cX5_told 105 = .ok (.getfield 21, 3) := by decide +kernel
theorem dX5_told_108 : decode cX5_told 108 = .ok (.getfield 98, 3) := by decide +kernel
theorem dX5_told_111 : decode cX5_told 111 = .ok (.iload_n 1, 1) := by decide +kernel
theorem dX5_told_112 : decode cX5_told 112 = .ok (.iaload, 1) := by decide +kernel
theorem dX5_told_113 : decode cX5_told 113 = .ok (.ireturn, 1) := by decide +kernel
theorem dX5_told_114 : decode cX5_told 114 = .ok (.aload_n 0, 1) := by decide +kernel
theorem dX5_told_115 : decode cX5_told 115 = .ok (.getfield 21, 3) := by decide +kernel
theorem dX5_told_118 : decode cX5_told 118 = .ok (.iload_n 1, 1) := by decide +kernel
theorem dX5_told_119 : decode cX5_told 119 = .ok (.invokevirtual 101, 3) := by decide +kernel
theorem dX5_told_122 : decode cX5_told 122 = .ok (.ireturn, 1) := by decide +kernel
theorem dX5_told_123 : decode cX5_told 123 = .ok (.aload_n 0, 1) := by decide +kernel
theorem dX5_told_124 : decode cX5_told 124 = .ok (.getfield 21, 3) := by decide +kernel
theorem dX5_told_127 : decode cX5_told 127 = .ok (.iload_n 1, 1) := by decide +kernel
theorem dX5_told_128 : decode cX5_told 128 = .ok (.invokevirtual 105, 3) := by decide +kernel
theorem dX5_told_131 : decode cX5_told 131 = .ok (.ireturn, 1) := by decide +kernel
theorem dX5_told_132 : decode cX5_told 132 = .ok (.aload_n 0, 1) := by decide +kernel
theorem dX5_told_133 : decode cX5_told 133 = .ok (.getfield 21, 3) := by decide +kernel
theorem dX5_told_136 : decode cX5_told 136 = .ok (.iload_n 1, 1) := by decide +kernel
theorem dX5_told_137 : decode cX5_told 137 = .ok (.invokevirtual 108, 3) := by decide +kernel
theorem dX5_told_140 : decode cX5_told 140 = .ok (.ireturn, 1) := by decide +kernel
theorem dX5_told_141 : decode cX5_told 141 = .ok (.aload_n 0, 1) := by decide +kernel
theorem dX5_told_142 : decode cX5_told 142 = .ok (.getfield 21, 3) := by decide +kernel
theorem dX5_told_145 : decode cX5_told 145 = .ok (.getfield 86, 3) := by decide +kernel
theorem dX5_told_148 : decode cX5_told 148 = .ok (.iload_n 1, 1) := by decide +kernel
theorem dX5_told_149 : decode cX5_told 149 = .ok (.iaload, 1) := by decide +kernel
theorem dX5_told_150 : decode cX5_told 150 = .ok (.aload_n 0, 1) := by decide +kernel
theorem dX5_told_151 : decode cX5_told 151 = .ok (.getfield 21, 3) := by decide +kernel
theorem dX5_told_154 : decode cX5_told 154 = .ok (.getfield 89, 3) := by decide +kernel
theorem dX5_told_157 : decode cX5_told 157 = .ok (.iload_n 1, 1) := by decide +kernel
theorem dX5_told_158 : decode cX5_told 158 = .ok (.iaload, 1) := by decide +kernel
theorem dX5_told_159 : decode cX5_told 159 = .ok (.aload_n 0, 1) := by decide +kernel
theorem dX5_told_160 : decode cX5_told 160 = .ok (.getfield 21, 3) := by decide +kernel
theorem dX5_told_163 : decode cX5_told 163 = .ok (.getfield 98, 3) := by decide +kernel
theorem dX5_told_166 : decode cX5_told 166 = .ok (.iload_n 1, 1) := by decide +kernel
theorem dX5_told_167 : decode cX5_told 167 = .ok (.iaload, 1) := by decide +kernel
theorem dX5_told_168 : decode cX5_told 168 = .ok (.invokestatic 111, 3) := by decide +kernel
theorem dX5_told_171 : decode cX5_told 171 = .ok (.ireturn, 1) := by decide +kernel
theorem dX5_told_172 : decode cX5_told 172 = .ok (.ldc 73, 2) := by decide +kernel
theorem dX5_told_174 : decode cX5_told 174 = .ok (.ireturn, 1) := by decide +kernel
theorem dX5_as_0 : decode cX5_as 0 = .ok (.aload_n 0, 1) := by decide +kernel
theorem dX5_as_1 : decode cX5_as 1 = .ok (.iload_n 1, 1) := by decide +kernel
theorem dX5_as_2 : decode cX5_as 2 = .ok (.invokevirtual 83, 3) := by decide +kernel
theorem dX5_as_5 : decode cX5_as 5 = .ok (.ifCond .eq 10, 3) := by decide +kernel
theorem dX5_as_8 : decode cX5_as 8 = .ok (.iload_n 2, 1) := by decide +kernel
theorem dX5_as_9 : decode cX5_as 9 = .ok (.invokestatic 62, 3) := by decide +kernel
theorem dX5_as_12 : decode cX5_as 12 = .ok (.ifCond .ne 6, 3) := by decide +kernel
theorem dX5_as_15 : decode cX5_as 15 = .ok (.ldc 73, 2) := by decide +kernel
theorem dX5_as_17 : decode cX5_as 17 = .ok (.ireturn, 1) := by decide +kernel
theorem dX5_as_18 : decode cX5_as 18 = .ok (.aload_n 0, 1) := by decide +kernel
theorem dX5_as_19 : decode cX5_as 19 = .ok (.getfield 21, 3) := by decide +kernel
theorem dX5_as_22 : decode cX5_as 22 = .ok (.getfield 86, 3) := by decide +kernel
theorem dX5_as_25 : decode cX5_as 25 = .ok (.iload_n 1, 1) := by decide +kernel
theorem dX5_as_26 : decode cX5_as 26 = .ok (.iaload, 1) := by decide +kernel
theorem dX5_as_27 : decode cX5_as 27 = .ok (.iload_n 2, 1) := by decide +kernel
theorem dX5_as_28 : decode cX5_as 28 = .ok (.invokestatic 115, 3) := by decide +kernel
theorem dX5_as_31 : decode cX5_as 31 = .ok (.ifCond .eq 15, 3) := by decide +kernel
theorem dX5_as_34 : decode cX5_as 34 = .ok (.aload_n 0, 1) := by decide +kernel
theorem dX5_as_35 : decode cX5_as 35 = .ok (.getfield 21, 3) := by decide +kernel
theorem dX5_as_38 : decode cX5_as 38 = .ok (.getfield 89, 3) := by decide +kernel
theorem dX5_as_41 : decode cX5_as 41 = .ok (.iload_n 1, 1) := by decide +kernel
theorem dX5_as_42 : decode cX5_as 42 = .ok (.iaload, 1) := by decide +kernel
theorem dX5_as_43 : decode cX5_as 43 = .ok (.goto 5, 3) := by decide +kernel
theorem dX5_as_46 : decode cX5_as 46 = .ok (.ldc 119, 2) := by decide +kernel
theorem dX5_as_48 : decode cX5_as 48 = .ok (.ireturn, 1) := by decide +kernel
theorem dX5_turns_0 : decode cX5_turns 0 = .ok (.aload_n 0, 1) := by decide +kernel
theorem dX5_turns_1 : decode cX5_turns 1 = .ok (.iload_n 1, 1) := by decide +kernel
theorem dX5_turns_2 : decode cX5_turns 2 = .ok (.invokevirtual 83, 3) := by decide +kernel
theorem dX5_turns_5 : decode cX5_turns 5 = .ok (.ifCond .eq 10, 3) := by decide +kernel
theorem dX5_turns_8 : decode cX5_turns 8 = .ok (.iload_n 2, 1) := by decide +kernel
theorem dX5_turns_9 : decode cX5_turns 9 = .ok (.invokestatic 62, 3) := by decide +kernel
theorem dX5_turns_12 : decode cX5_turns 12 = .ok (.ifCond .ne 6, 3) := by decide +kernel
theorem dX5_turns_15 : decode cX5_turns 15 = .ok (.ldc 73, 2) := by decide +kernel
theorem dX5_turns_17 : decode cX5_turns 17 = .ok (.ireturn, 1) := by decide +kernel
theorem dX5_turns_18 : decode cX5_turns 18 = .ok (.aload_n 0, 1) := by decide +kernel
theorem dX5_turns_19 : decode cX5_turns 19 = .ok (.getfield 21, 3) := by decide +kernel
theorem dX5_turns_22 : decode cX5_turns 22 = .ok (.getfield 86, 3) := by decide +kernel
theorem dX5_turns_25 : decode cX5_turns 25 = .ok (.iload_n 1, 1) := by decide +kernel
theorem dX5_turns_26 : decode cX5_turns 26 = .ok (.iaload, 1) := by decide +kernel
theorem dX5_turns_27 : decode cX5_turns 27 = .ok (.istore_n 3, 1) := by decide +kernel
theorem dX5_turns_28 : decode cX5_turns 28 = .ok (.aload_n 0, 1) := by decide +kernel
theorem dX5_turns_29 : decode cX5_turns 29 = .ok (.getfield 21, 3) := by decide +kernel
theorem dX5_turns_32 : decode cX5_turns 32 = .ok (.getfield 86, 3) := by decide +kernel
theorem dX5_turns_35 : decode cX5_turns 35 = .ok (.iload_n 1, 1) := by decide +kernel
theorem dX5_turns_36 : decode cX5_turns 36 = .ok (.iload_n 2, 1) := by decide +kernel
theorem dX5_turns_37 : decode cX5_turns 37 = .ok (.iastore, 1) := by decide +kernel
theorem dX5_turns_38 : decode cX5_turns 38 = .ok (.iload_n 3, 1) := by decide +kernel
theorem dX5_turns_39 : decode cX5_turns 39 = .ok (.ireturn, 1) := by decide +kernel
theorem dX5_set_0 : decode cX5_set 0 = .ok (.aload_n 0, 1) := by decide +kernel
theorem dX5_set_1 : decode cX5_set 1 = .ok (.iload_n 1, 1) := by decide +kernel
theorem dX5_set_2 : decode cX5_set 2 = .ok (.invokevirtual 83, 3) := by decide +kernel
theorem dX5_set_5 : decode cX5_set 5 = .ok (.ifCond .ne 6, 3) := by decide +kernel
theorem dX5_set_8 : decode cX5_set 8 = .ok (.ldc 73, 2) := by decide +kernel
theorem dX5_set_10 : decode cX5_set 10 = .ok (.ireturn, 1) := by decide +kernel
theorem dX5_set_11 : decode cX5_set 11 = .ok (.iload_n 2, 1) := by decide +kernel
theorem dX5_set_12 : decode cX5_set 12 = .ok (.tableswitch 101 1 4 #[32, 47, 63, 85], 32) := by decide +kernel
theorem dX5_set_44 : decode cX5_set 44 = .ok (.aload_n 0, 1) := by decide +kernel
theorem dX5_set_45 : decode cX5_set 45 = .ok (.getfield 21, 3) := by decide +kernel
theorem dX5_set_48 : decode cX5_set 48 = .ok (.getfield 89, 3) := by decide +kernel
theorem dX5_set_51 : decode cX5_set 51 = .ok (.iload_n 1, 1) := by decide +kernel
theorem dX5_set_52 : decode cX5_set 52 = .ok (.iload_n 3, 1) := by decide +kernel
theorem dX5_set_53 : decode cX5_set 53 = .ok (.bipush 99, 2) := by decide +kernel
theorem dX5_set_55 : decode cX5_set 55 = .ok (.invokestatic 120, 3) := by decide +kernel
theorem dX5_set_58 : decode cX5_set 58 = .ok (.ireturn, 1) := by decide +kernel
theorem dX5_set_59 : decode cX5_set 59 = .ok (.aload_n 0, 1) := by decide +kernel
theorem dX5_set_60 : decode cX5_set 60 = .ok (.getfield 21, 3) := by decide +kernel
theorem dX5_set_63 : decode cX5_set 63 = .ok (.getfield 92, 3) := by decide +kernel
theorem dX5_set_66 : decode cX5_set 66 = .ok (.iload_n 1, 1) := by decide +kernel
theorem dX5_set_67 : decode cX5_set 67 = .ok (.iload_n 3, 1) := by decide +kernel
theorem dX5_set_68 : decode cX5_set 68 = .ok (.sipush 9999, 3) := by decide +kernel
theorem dX5_set_71 : decode cX5_set 71 = .ok (.invokestatic 120, 3) := by decide +kernel
theorem dX5_set_74 : decode cX5_set 74 = .ok (.ireturn, 1) := by decide +kernel
theorem dX5_set_75 : decode cX5_set 75 = .ok (.iload_n 3, 1) := by decide +kernel
theorem dX5_set_76 : decode cX5_set 76 = .ok (.invokestatic 70, 3) := by decide +kernel
theorem dX5_set_79 : decode cX5_set 79 = .ok (.ifCond .eq 15, 3) := by decide +kernel
theorem dX5_set_82 : decode cX5_set 82 = .ok (.aload_n 0, 1) := by decide +kernel
theorem dX5_set_83 : decode cX5_set 83 = .ok (.getfield 21, 3) := by decide +kernel
theorem dX5_set_86 : decode cX5_set 86 = .ok (.iload_n 1, 1) := by decide +kernel
theorem dX5_set_87 : decode cX5_set 87 = .ok (.iload_n 3, 1) := by decide +kernel
theorem dX5_set_88 : decode cX5_set 88 = .ok (.invokevirtual 124, 3) := by decide +kernel
theorem dX5_set_91 : decode cX5_set 91 = .ok (.goto 5, 3) := by decide +kernel
theorem dX5_set_94 : decode cX5_set 94 = .ok (.ldc 73, 2) := by decide +kernel
theorem dX5_set_96 : decode cX5_set 96 = .ok (.ireturn, 1) := by decide +kernel
theorem dX5_set_97 : decode cX5_set 97 = .ok (.aload_n 0, 1) := by decide +kernel
theorem dX5_set_98 : decode cX5_set 98 = .ok (.getfield 21, 3) := by decide +kernel
theorem dX5_set_101 : decode cX5_set 101 = .ok (.getfield 98, 3) := by decide +kernel
theorem dX5_set_104 : decode cX5_set 104 = .ok (.iload_n 1, 1) := by decide +kernel
theorem dX5_set_105 : decode cX5_set 105 = .ok (.iload_n 3, 1) := by decide +kernel
theorem dX5_set_106 : decode cX5_set 106 = .ok (.sipush 9999, 3) := by decide +kernel
theorem dX5_set_109 : decode cX5_set 109 = .ok (.invokestatic 120, 3) := by decide +kernel
theorem dX5_set_112 : decode cX5_set 112 = .ok (.ireturn, 1) := by decide +kernel
theorem dX5_set_113 : decode cX5_set 113 = .ok (.ldc 73, 2) := by decide +kernel
theorem dX5_set_115 : decode cX5_set 115 = .ok (.ireturn, 1) := by decide +kernel
theorem dX5_cell_0 : decode cX5_cell 0 = .ok (.iload_n 1, 1) := by decide +kernel
theorem dX5_cell_1 : decode cX5_cell 1 = .ok (.invokestatic 70, 3) := by decide +kernel
theorem dX5_cell_4 : decode cX5_cell 4 = .ok (.ifCond .ne 6, 3) := by decide +kernel
theorem dX5_cell_7 : decode cX5_cell 7 = .ok (.ldc 73, 2) := by decide +kernel
theorem dX5_cell_9 : decode cX5_cell 9 = .ok (.ireturn, 1) := by decide +kernel
theorem dX5_cell_10 : decode cX5_cell 10 = .ok (.iload_n 2, 1) := by decide +kernel
theorem dX5_cell_11 : decode cX5_cell 11 = .ok (.lookupswitch 56 #[(0, 25), (1, 40)], 25) := by decide +kernel
theorem dX5_cell_36 : decode cX5_cell 36 = .ok (.aload_n 0, 1) := by decide +kernel
theorem dX5_cell_37 : decode cX5_cell 37 = .ok (.getfield 21, 3) := by decide +kernel
theorem dX5_cell_40 : decode cX5_cell 40 = .ok (.getfield 128, 3) := by decide +kernel
theorem dX5_cell_43 : decode cX5_cell 43 = .ok (.iload_n 1, 1) := by decide +kernel
theorem dX5_cell_44 : decode cX5_cell 44 = .ok (.iload_n 3, 1) := by decide +kernel
theorem dX5_cell_45 : decode cX5_cell 45 = .ok (.bipush 99, 2) := by decide +kernel
theorem dX5_cell_47 : decode cX5_cell 47 = .ok (.invokestatic 120, 3) := by decide +kernel
theorem dX5_cell_50 : decode cX5_cell 50 = .ok (.ireturn, 1) := by decide +kernel
theorem dX5_cell_51 : decode cX5_cell 51 = .ok (.aload_n 0, 1) := by decide +kernel
theorem dX5_cell_52 : decode cX5_cell 52 = .ok (.getfield 21, 3) := by decide +kernel
theorem dX5_cell_55 : decode cX5_cell 55 = .ok (.getfield 131, 3) := by decide +kernel
theorem dX5_cell_58 : decode cX5_cell 58 = .ok (.iload_n 1, 1) := by decide +kernel
theorem dX5_cell_59 : decode cX5_cell 59 = .ok (.iload_n 3, 1) := by decide +kernel
theorem dX5_cell_60 : decode cX5_cell 60 = .ok (.sipush 9999, 3) := by decide +kernel
theorem dX5_cell_63 : decode cX5_cell 63 = .ok (.invokestatic 120, 3) := by decide +kernel
theorem dX5_cell_66 : decode cX5_cell 66 = .ok (.ireturn, 1) := by decide +kernel
theorem dX5_cell_67 : decode cX5_cell 67 = .ok (.ldc 73, 2) := by decide +kernel
theorem dX5_cell_69 : decode cX5_cell 69 = .ok (.ireturn, 1) := by decide +kernel
theorem dX5_cellOf_0 : decode cX5_cellOf 0 = .ok (.iload_n 1, 1) := by decide +kernel
theorem dX5_cellOf_1 : decode cX5_cellOf 1 = .ok (.invokestatic 70, 3) := by decide +kernel
theorem dX5_cellOf_4 : decode cX5_cellOf 4 = .ok (.ifCond .ne 6, 3) := by decide +kernel
theorem dX5_cellOf_7 : decode cX5_cellOf 7 = .ok (.ldc 73, 2) := by decide +kernel
theorem dX5_cellOf_9 : decode cX5_cellOf 9 = .ok (.ireturn, 1) := by decide +kernel
theorem dX5_cellOf_10 : decode cX5_cellOf 10 = .ok (.iload_n 2, 1) := by decide +kernel
theorem dX5_cellOf_11 : decode cX5_cellOf 11 = .ok (.tableswitch 67 0 3 #[29, 39, 49, 58], 29) := by decide +kernel
theorem dX5_cellOf_40 : decode cX5_cellOf 40 = .ok (.aload_n 0, 1) := by decide +kernel
theorem dX5_cellOf_41 : decode cX5_cellOf 41 = .ok (.getfield 21, 3) := by decide +kernel
theorem dX5_cellOf_44 : decode cX5_cellOf 44 = .ok (.getfield 128, 3) := by decide +kernel
theorem dX5_cellOf_47 : decode cX5_cellOf 47 = .ok (.iload_n 1, 1) := by decide +kernel
theorem dX5_cellOf_48 : decode cX5_cellOf 48 = .ok (.iaload, 1) := by decide +kernel
theorem dX5_cellOf_49 : decode cX5_cellOf 49 = .ok (.ireturn, 1) := by decide +kernel
theorem dX5_cellOf_50 : decode cX5_cellOf 50 = .ok (.aload_n 0, 1) := by decide +kernel
theorem dX5_cellOf_51 : decode cX5_cellOf 51 = .ok (.getfield 21, 3) := by decide +kernel
theorem dX5_cellOf_54 : decode cX5_cellOf 54 = .ok (.getfield 131, 3) := by decide +kernel
theorem dX5_cellOf_57 : decode cX5_cellOf 57 = .ok (.iload_n 1, 1) := by decide +kernel
theorem dX5_cellOf_58 : decode cX5_cellOf 58 = .ok (.iaload, 1) := by decide +kernel
theorem dX5_cellOf_59 : decode cX5_cellOf 59 = .ok (.ireturn, 1) := by decide +kernel
theorem dX5_cellOf_60 : decode cX5_cellOf 60 = .ok (.aload_n 0, 1) := by decide +kernel
theorem dX5_cellOf_61 : decode cX5_cellOf 61 = .ok (.getfield 21, 3) := by decide +kernel
theorem dX5_cellOf_64 : decode cX5_cellOf 64 = .ok (.iload_n 1, 1) := by decide +kernel
theorem dX5_cellOf_65 : decode cX5_cellOf 65 = .ok (.invokevirtual 134, 3) := by decide +kernel
theorem dX5_cellOf_68 : decode cX5_cellOf 68 = .ok (.ireturn, 1) := by decide +kernel
theorem dX5_cellOf_69 : decode cX5_cellOf 69 = .ok (.aload_n 0, 1) := by decide +kernel
theorem dX5_cellOf_70 : decode cX5_cellOf 70 = .ok (.getfield 21, 3) := by decide +kernel
theorem dX5_cellOf_73 : decode cX5_cellOf 73 = .ok (.iload_n 1, 1) := by decide +kernel
theorem dX5_cellOf_74 : decode cX5_cellOf 74 = .ok (.invokevirtual 137, 3) := by decide +kernel
theorem dX5_cellOf_77 : decode cX5_cellOf 77 = .ok (.ireturn, 1) := by decide +kernel
theorem dX5_cellOf_78 : decode cX5_cellOf 78 = .ok (.ldc 73, 2) := by decide +kernel
theorem dX5_cellOf_80 : decode cX5_cellOf 80 = .ok (.ireturn, 1) := by decide +kernel
theorem dX5_rule_0 : decode cX5_rule 0 = .ok (.iload_n 1, 1) := by decide +kernel
theorem dX5_rule_1 : decode cX5_rule 1 = .ok (.iconst 0, 1) := by decide +kernel
theorem dX5_rule_2 : decode cX5_rule 2 = .ok (.iconst 2, 1) := by decide +kernel
theorem dX5_rule_3 : decode cX5_rule 3 = .ok (.invokestatic 66, 3) := by decide +kernel
theorem dX5_rule_6 : decode cX5_rule 6 = .ok (.ifCond .eq 20, 3) := by decide +kernel
theorem dX5_rule_9 : decode cX5_rule 9 = .ok (.iload_n 2, 1) := by decide +kernel
theorem dX5_rule_10 : decode cX5_rule 10 = .ok (.getstatic 140, 3) := by decide +kernel
theorem dX5_rule_13 : decode cX5_rule 13 = .ok (.iload_n 1, 1) := by decide +kernel
theorem dX5_rule_14 : decode cX5_rule 14 = .ok (.iaload, 1) := by decide +kernel
theorem dX5_rule_15 : decode cX5_rule 15 = .ok (.getstatic 143, 3) := by decide +kernel
theorem dX5_rule_18 : decode cX5_rule 18 = .ok (.iload_n 1, 1) := by decide +kernel
theorem dX5_rule_19 : decode cX5_rule 19 = .ok (.iaload, 1) := by decide +kernel
theorem dX5_rule_20 : decode cX5_rule 20 = .ok (.invokestatic 66, 3) := by decide +kernel
theorem dX5_rule_23 : decode cX5_rule 23 = .ok (.ifCond .ne 6, 3) := by decide +kernel
theorem dX5_rule_26 : decode cX5_rule 26 = .ok (.ldc 73, 2) := by decide +kernel
theorem dX5_rule_28 : decode cX5_rule 28 = .ok (.ireturn, 1) := by decide +kernel
theorem dX5_rule_29 : decode cX5_rule 29 = .ok (.aload_n 0, 1) := by decide +kernel
theorem dX5_rule_30 : decode cX5_rule 30 = .ok (.getfield 21, 3) := by decide +kernel
theorem dX5_rule_33 : decode cX5_rule 33 = .ok (.getfield 146, 3) := by decide +kernel
theorem dX5_rule_36 : decode cX5_rule 36 = .ok (.iload_n 1, 1) := by decide +kernel
theorem dX5_rule_37 : decode cX5_rule 37 = .ok (.iaload, 1) := by decide +kernel
theorem dX5_rule_38 : decode cX5_rule 38 = .ok (.istore_n 3, 1) := by decide +kernel
theorem dX5_rule_39 : decode cX5_rule 39 = .ok (.aload_n 0, 1) := by decide +kernel
theorem dX5_rule_40 : decode cX5_rule 40 = .ok (.getfield 21, 3) := by decide +kernel
theorem dX5_rule_43 : decode cX5_rule 43 = .ok (.getfield 146, 3) := by decide +kernel
theorem dX5_rule_46 : decode cX5_rule 46 = .ok (.iload_n 1, 1) := by decide +kernel
theorem dX5_rule_47 : decode cX5_rule 47 = .ok (.iload_n 2, 1) := by decide +kernel
theorem dX5_rule_48 : decode cX5_rule 48 = .ok (.iastore, 1) := by decide +kernel
theorem dX5_rule_49 : decode cX5_rule 49 = .ok (.iload_n 3, 1) := by decide +kernel
theorem dX5_rule_50 : decode cX5_rule 50 = .ok (.ireturn, 1) := by decide +kernel
theorem dX5_deal_0 : decode cX5_deal 0 = .ok (.iload_n 1, 1) := by decide +kernel
theorem dX5_deal_1 : decode cX5_deal 1 = .ok (.iconst 1, 1) := by decide +kernel
theorem dX5_deal_2 : decode cX5_deal 2 = .ok (.bipush 10, 2) := by decide +kernel
theorem dX5_deal_4 : decode cX5_deal 4 = .ok (.invokestatic 66, 3) := by decide +kernel
theorem dX5_deal_7 : decode cX5_deal 7 = .ok (.ifCond .ne 6, 3) := by decide +kernel
theorem dX5_deal_10 : decode cX5_deal 10 = .ok (.ldc 73, 2) := by decide +kernel
theorem dX5_deal_12 : decode cX5_deal 12 = .ok (.ireturn, 1) := by decide +kernel
theorem dX5_deal_13 : decode cX5_deal 13 = .ok (.iload_n 1, 1) := by decide +kernel
theorem dX5_deal_14 : decode cX5_deal 14 = .ok (.bipush 10, 2) := by decide +kernel
theorem dX5_deal_16 : decode cX5_deal 16 = .ok (.aload_n 0, 1) := by decide +kernel
theorem dX5_deal_17 : decode cX5_deal 17 = .ok (.getfield 21, 3) := by decide +kernel
theorem dX5_deal_20 : decode cX5_deal 20 = .ok (.getfield 74, 3) := by decide +kernel
theorem dX5_deal_23 : decode cX5_deal 23 = .ok (.isub, 1) := by decide +kernel
theorem dX5_deal_24 : decode cX5_deal 24 = .ok (.invokestatic 149, 3) := by decide +kernel
theorem dX5_deal_27 : decode cX5_deal 27 = .ok (.istore_n 2, 1) := by decide +kernel
theorem dX5_deal_28 : decode cX5_deal 28 = .ok (.iconst 0, 1) := by decide +kernel
theorem dX5_deal_29 : decode cX5_deal 29 = .ok (.istore_n 3, 1) := by decide +kernel
theorem dX5_deal_30 : decode cX5_deal 30 = .ok (.iload_n 3, 1) := by decide +kernel
theorem dX5_deal_31 : decode cX5_deal 31 = .ok (.iload_n 2, 1) := by decide +kernel
theorem dX5_deal_32 : decode cX5_deal 32 = .ok (.if_icmp .ge 72, 3) := by decide +kernel
theorem dX5_deal_35 : decode cX5_deal 35 = .ok (.aload_n 0, 1) := by decide +kernel
theorem dX5_deal_36 : decode cX5_deal 36 = .ok (.getfield 21, 3) := by decide +kernel
theorem dX5_deal_39 : decode cX5_deal 39 = .ok (.invokevirtual 154, 3) := by decide +kernel
theorem dX5_deal_42 : decode cX5_deal 42 = .ok (.bipush 6, 2) := by decide +kernel
theorem dX5_deal_44 : decode cX5_deal 44 = .ok (.irem, 1) := by decide +kernel
theorem dX5_deal_45 : decode cX5_deal 45 = .ok (.istore 4, 2) := by decide +kernel
theorem dX5_deal_47 : decode cX5_deal 47 = .ok (.aload_n 0, 1) := by decide +kernel
theorem dX5_deal_48 : decode cX5_deal 48 = .ok (.getfield 21, 3) := by decide +kernel
theorem dX5_deal_51 : decode cX5_deal 51 = .ok (.invokevirtual 154, 3) := by decide +kernel
theorem dX5_deal_54 : decode cX5_deal 54 = .ok (.bipush 70, 2) := by decide +kernel
theorem dX5_deal_56 : decode cX5_deal 56 = .ok (.irem, 1) := by decide +kernel
theorem dX5_deal_57 : decode cX5_deal 57 = .ok (.bipush 30, 2) := by decide +kernel
theorem dX5_deal_59 : decode cX5_deal 59 = .ok (.iadd, 1) := by decide +kernel
theorem dX5_deal_60 : decode cX5_deal 60 = .ok (.istore 5, 2) := by decide +kernel
theorem dX5_deal_62 : decode cX5_deal 62 = .ok (.aload_n 0, 1) := by decide +kernel
theorem dX5_deal_63 : decode cX5_deal 63 = .ok (.getfield 21, 3) := by decide +kernel
theorem dX5_deal_66 : decode cX5_deal 66 = .ok (.invokevirtual 154, 3) := by decide +kernel
theorem dX5_deal_69 : decode cX5_deal 69 = .ok (.bipush 40, 2) := by decide +kernel
theorem dX5_deal_71 : decode cX5_deal 71 = .ok (.irem, 1) := by decide +kernel
theorem dX5_deal_72 : decode cX5_deal 72 = .ok (.istore 6, 2) := by decide +kernel
theorem dX5_deal_74 : decode cX5_deal 74 = .ok (.aload_n 0, 1) := by decide +kernel
theorem dX5_deal_75 : decode cX5_deal 75 = .ok (.getfield 21, 3) := by decide +kernel
theorem dX5_deal_78 : decode cX5_deal 78 = .ok (.iload 4, 2) := by decide +kernel
theorem dX5_deal_80 : decode cX5_deal 80 = .ok (.iload 5, 2) := by decide +kernel
theorem dX5_deal_82 : decode cX5_deal 82 = .ok (.iload 6, 2) := by decide +kernel
theorem dX5_deal_84 : decode cX5_deal 84 = .ok (.aload_n 0, 1) := by decide +kernel
theorem dX5_deal_85 : decode cX5_deal 85 = .ok (.getfield 21, 3) := by decide +kernel
theorem dX5_deal_88 : decode cX5_deal 88 = .ok (.invokevirtual 154, 3) := by decide +kernel
theorem dX5_deal_91 : decode cX5_deal 91 = .ok (.bipush 6, 2) := by decide +kernel
theorem dX5_deal_93 : decode cX5_deal 93 = .ok (.irem, 1) := by decide +kernel
theorem dX5_deal_94 : decode cX5_deal 94 = .ok (.invokevirtual 79, 3) := by decide +kernel
theorem dX5_deal_97 : decode cX5_deal 97 = .ok (.pop, 1) := by decide +kernel
theorem dX5_deal_98 : decode cX5_deal 98 = .ok (.iinc 3 1, 3) := by decide +kernel
theorem dX5_deal_101 : decode cX5_deal 101 = .ok (.goto (-71), 3) := by decide +kernel
theorem dX5_deal_104 : decode cX5_deal 104 = .ok (.iload_n 2, 1) := by decide +kernel
theorem dX5_deal_105 : decode cX5_deal 105 = .ok (.ireturn, 1) := by decide +kernel
theorem dX5_seed_0 : decode cX5_seed 0 = .ok (.aload_n 0, 1) := by decide +kernel
theorem dX5_seed_1 : decode cX5_seed 1 = .ok (.getfield 21, 3) := by decide +kernel
theorem dX5_seed_4 : decode cX5_seed 4 = .ok (.getfield 158, 3) := by decide +kernel
theorem dX5_seed_7 : decode cX5_seed 7 = .ok (.istore_n 2, 1) := by decide +kernel
theorem dX5_seed_8 : decode cX5_seed 8 = .ok (.aload_n 0, 1) := by decide +kernel
theorem dX5_seed_9 : decode cX5_seed 9 = .ok (.getfield 21, 3) := by decide +kernel
theorem dX5_seed_12 : decode cX5_seed 12 = .ok (.iload_n 1, 1) := by decide +kernel
theorem dX5_seed_13 : decode cX5_seed 13 = .ok (.putfield 158, 3) := by decide +kernel
theorem dX5_seed_16 : decode cX5_seed 16 = .ok (.iload_n 2, 1) := by decide +kernel
theorem dX5_seed_17 : decode cX5_seed 17 = .ok (.ireturn, 1) := by decide +kernel
theorem dX5_fewest_0 : decode cX5_fewest 0 = .ok (.iload_n 1, 1) := by decide +kernel
theorem dX5_fewest_1 : decode cX5_fewest 1 = .ok (.iconst 0, 1) := by decide +kernel
theorem dX5_fewest_2 : decode cX5_fewest 2 = .ok (.sipush 999, 3) := by decide +kernel
theorem dX5_fewest_5 : decode cX5_fewest 5 = .ok (.invokestatic 66, 3) := by decide +kernel
theorem dX5_fewest_8 : decode cX5_fewest 8 = .ok (.ifCond .eq 12, 3) := by decide +kernel
theorem dX5_fewest_11 : decode cX5_fewest 11 = .ok (.iload_n 2, 1) := by decide +kernel
theorem dX5_fewest_12 : decode cX5_fewest 12 = .ok (.iconst 0, 1) := by decide +kernel
theorem dX5_fewest_13 : decode cX5_fewest 13 = .ok (.iconst 1, 1) := by decide +kernel
theorem dX5_fewest_14 : decode cX5_fewest 14 = .ok (.invokestatic 66, 3) := by decide +kernel
theorem dX5_fewest_17 : decode cX5_fewest 17 = .ok (.ifCond .ne 6, 3) := by decide +kernel
theorem dX5_fewest_20 : decode cX5_fewest 20 = .ok (.ldc 73, 2) := by decide +kernel
theorem dX5_fewest_22 : decode cX5_fewest 22 = .ok (.ireturn, 1) := by decide +kernel
theorem dX5_fewest_23 : decode cX5_fewest 23 = .ok (.iconst 0, 1) := by decide +kernel
theorem dX5_fewest_24 : decode cX5_fewest 24 = .ok (.istore_n 3, 1) := by decide +kernel
theorem dX5_fewest_25 : decode cX5_fewest 25 = .ok (.iload_n 3, 1) := by decide +kernel
theorem dX5_fewest_26 : decode cX5_fewest 26 = .ok (.aload_n 0, 1) := by decide +kernel
theorem dX5_fewest_27 : decode cX5_fewest 27 = .ok (.getfield 21, 3) := by decide +kernel
theorem dX5_fewest_30 : decode cX5_fewest 30 = .ok (.getfield 74, 3) := by decide +kernel
theorem dX5_fewest_33 : decode cX5_fewest 33 = .ok (.if_icmp .ge 23, 3) := by decide +kernel
theorem dX5_fewest_36 : decode cX5_fewest 36 = .ok (.aload_n 0, 1) := by decide +kernel
theorem dX5_fewest_37 : decode cX5_fewest 37 = .ok (.getfield 57, 3) := by decide +kernel
theorem dX5_fewest_40 : decode cX5_fewest 40 = .ok (.iload_n 3, 1) := by decide +kernel
theorem dX5_fewest_41 : decode cX5_fewest 41 = .ok (.aload_n 0, 1) := by decide +kernel
theorem dX5_fewest_42 : decode cX5_fewest 42 = .ok (.getfield 21, 3) := by decide +kernel
theorem dX5_fewest_45 : decode cX5_fewest 45 = .ok (.iload_n 3, 1) := by decide +kernel
theorem dX5_fewest_46 : decode cX5_fewest 46 = .ok (.invokevirtual 101, 3) := by decide +kernel
theorem dX5_fewest_49 : decode cX5_fewest 49 = .ok (.iastore, 1) := by decide +kernel
theorem dX5_fewest_50 : decode cX5_fewest 50 = .ok (.iinc 3 1, 3) := by decide +kernel
theorem dX5_fewest_53 : decode cX5_fewest 53 = .ok (.goto (-28), 3) := by decide +kernel
theorem dX5_fewest_56 : decode cX5_fewest 56 = .ok (.ldc 161, 2) := by decide +kernel
theorem dX5_fewest_58 : decode cX5_fewest 58 = .ok (.istore_n 3, 1) := by decide +kernel
theorem dX5_fewest_59 : decode cX5_fewest 59 = .ok (.bipush 11, 2) := by decide +kernel
theorem dX5_fewest_61 : decode cX5_fewest 61 = .ok (.istore 4, 2) := by decide +kernel
theorem dX5_fewest_63 : decode cX5_fewest 63 = .ok (.iconst 0, 1) := by decide +kernel
theorem dX5_fewest_64 : decode cX5_fewest 64 = .ok (.istore 5, 2) := by decide +kernel
theorem dX5_fewest_66 : decode cX5_fewest 66 = .ok (.iload 5, 2) := by decide +kernel
theorem dX5_fewest_68 : decode cX5_fewest 68 = .ok (.iconst 1, 1) := by decide +kernel
theorem dX5_fewest_69 : decode cX5_fewest 69 = .ok (.aload_n 0, 1) := by decide +kernel
theorem dX5_fewest_70 : decode cX5_fewest 70 = .ok (.getfield 21, 3) := by decide +kernel
theorem dX5_fewest_73 : decode cX5_fewest 73 = .ok (.getfield 74, 3) := by decide +kernel
theorem dX5_fewest_76 : decode cX5_fewest 76 = .ok (.ishl, 1) := by decide +kernel
theorem dX5_fewest_77 : decode cX5_fewest 77 = .ok (.if_icmp .ge 40, 3) := by decide +kernel
theorem dX5_fewest_80 : decode cX5_fewest 80 = .ok (.iload 5, 2) := by decide +kernel
theorem dX5_fewest_82 : decode cX5_fewest 82 = .ok (.invokestatic 162, 3) := by decide +kernel
theorem dX5_fewest_85 : decode cX5_fewest 85 = .ok (.istore 6, 2) := by decide +kernel
theorem dX5_fewest_87 : decode cX5_fewest 87 = .ok (.iload 6, 2) := by decide +kernel
theorem dX5_fewest_89 : decode cX5_fewest 89 = .ok (.iload 4, 2) := by decide +kernel
theorem dX5_fewest_91 : decode cX5_fewest 91 = .ok (.if_icmp .ge 20, 3) := by decide +kernel
theorem dX5_fewest_94 : decode cX5_fewest 94 = .ok (.aload_n 0, 1) := by decide +kernel
theorem dX5_fewest_95 : decode cX5_fewest 95 = .ok (.iload 5, 2) := by decide +kernel
theorem dX5_fewest_97 : decode cX5_fewest 97 = .ok (.invokevirtual 167, 3) := by decide +kernel
theorem dX5_fewest_100 : decode cX5_fewest 100 = .ok (.iload_n 1, 1) := by decide +kernel
theorem dX5_fewest_101 : decode cX5_fewest 101 = .ok (.if_icmp .lt 10, 3) := by decide +kernel
theorem dX5_fewest_104 : decode cX5_fewest 104 = .ok (.iload 5, 2) := by decide +kernel
theorem dX5_fewest_106 : decode cX5_fewest 106 = .ok (.istore_n 3, 1) := by decide +kernel
theorem dX5_fewest_107 : decode cX5_fewest 107 = .ok (.iload 6, 2) := by decide +kernel
theorem dX5_fewest_109 : decode cX5_fewest 109 = .ok (.istore 4, 2) := by decide +kernel
theorem dX5_fewest_111 : decode cX5_fewest 111 = .ok (.iinc 5 1, 3) := by decide +kernel
theorem dX5_fewest_114 : decode cX5_fewest 114 = .ok (.goto (-48), 3) := by decide +kernel
theorem dX5_fewest_117 : decode cX5_fewest 117 = .ok (.iload_n 3, 1) := by decide +kernel
theorem dX5_fewest_118 : decode cX5_fewest 118 = .ok (.ldc 161, 2) := by decide +kernel
theorem dX5_fewest_120 : decode cX5_fewest 120 = .ok (.if_icmp .ne 6, 3) := by decide +kernel
theorem dX5_fewest_123 : decode cX5_fewest 123 = .ok (.ldc 161, 2) := by decide +kernel
theorem dX5_fewest_125 : decode cX5_fewest 125 = .ok (.ireturn, 1) := by decide +kernel
theorem dX5_fewest_126 : decode cX5_fewest 126 = .ok (.iload_n 2, 1) := by decide +kernel
theorem dX5_fewest_127 : decode cX5_fewest 127 = .ok (.ifCond .ne 7, 3) := by decide +kernel
theorem dX5_fewest_130 : decode cX5_fewest 130 = .ok (.iload_n 3, 1) := by decide +kernel
theorem dX5_fewest_131 : decode cX5_fewest 131 = .ok (.goto 5, 3) := by decide +kernel
theorem dX5_fewest_134 : decode cX5_fewest 134 = .ok (.iload 4, 2) := by decide +kernel
theorem dX5_fewest_136 : decode cX5_fewest 136 = .ok (.ireturn, 1) := by decide +kernel
theorem dX5_breathe_0 : decode cX5_breathe 0 = .ok (.iload_n 1, 1) := by decide +kernel
theorem dX5_breathe_1 : decode cX5_breathe 1 = .ok (.invokestatic 70, 3) := by decide +kernel
theorem dX5_breathe_4 : decode cX5_breathe 4 = .ok (.ifCond .eq 14, 3) := by decide +kernel
theorem dX5_breathe_7 : decode cX5_breathe 7 = .ok (.aload_n 0, 1) := by decide +kernel
theorem dX5_breathe_8 : decode cX5_breathe 8 = .ok (.getfield 21, 3) := by decide +kernel
theorem dX5_breathe_11 : decode cX5_breathe 11 = .ok (.iload_n 1, 1) := by decide +kernel
theorem dX5_breathe_12 : decode cX5_breathe 12 = .ok (.invokevirtual 170, 3) := by decide +kernel
theorem dX5_breathe_15 : decode cX5_breathe 15 = .ok (.goto 5, 3) := by decide +kernel
theorem dX5_breathe_18 : decode cX5_breathe 18 = .ok (.ldc 73, 2) := by decide +kernel
theorem dX5_breathe_20 : decode cX5_breathe 20 = .ok (.ireturn, 1) := by decide +kernel
theorem dX5_dig_0 : decode cX5_dig 0 = .ok (.iload_n 1, 1) := by decide +kernel
theorem dX5_dig_1 : decode cX5_dig 1 = .ok (.invokestatic 70, 3) := by decide +kernel
theorem dX5_dig_4 : decode cX5_dig 4 = .ok (.ifCond .eq 25, 3) := by decide +kernel
theorem dX5_dig_7 : decode cX5_dig 7 = .ok (.iload_n 2, 1) := by decide +kernel
theorem dX5_dig_8 : decode cX5_dig 8 = .ok (.iconst 0, 1) := by decide +kernel
theorem dX5_dig_9 : decode cX5_dig 9 = .ok (.bipush 99, 2) := by decide +kernel
theorem dX5_dig_11 : decode cX5_dig 11 = .ok (.invokestatic 66, 3) := by decide +kernel
theorem dX5_dig_14 : decode cX5_dig 14 = .ok (.ifCond .eq 15, 3) := by decide +kernel
theorem dX5_dig_17 : decode cX5_dig 17 = .ok (.aload_n 0, 1) := by decide +kernel
theorem dX5_dig_18 : decode cX5_dig 18 = .ok (.getfield 21, 3) := by decide +kernel
theorem dX5_dig_21 : decode cX5_dig 21 = .ok (.iload_n 1, 1) := by decide +kernel
theorem dX5_dig_22 : decode cX5_dig 22 = .ok (.iload_n 2, 1) := by decide +kernel
theorem dX5_dig_23 : decode cX5_dig 23 = .ok (.invokevirtual 173, 3) := by decide +kernel
theorem dX5_dig_26 : decode cX5_dig 26 = .ok (.goto 5, 3) := by decide +kernel
theorem dX5_dig_29 : decode cX5_dig 29 = .ok (.ldc 73, 2) := by decide +kernel
theorem dX5_dig_31 : decode cX5_dig 31 = .ok (.ireturn, 1) := by decide +kernel
theorem dX5_springs_0 : decode cX5_springs 0 = .ok (.iload_n 1, 1) := by decide +kernel
theorem dX5_springs_1 : decode cX5_springs 1 = .ok (.iconst 1, 1) := by decide +kernel
theorem dX5_springs_2 : decode cX5_springs 2 = .ok (.bipush 100, 2) := by decide +kernel
theorem dX5_springs_4 : decode cX5_springs 4 = .ok (.invokestatic 66, 3) := by decide +kernel
theorem dX5_springs_7 : decode cX5_springs 7 = .ok (.ifCond .ne 6, 3) := by decide +kernel
theorem dX5_springs_10 : decode cX5_springs 10 = .ok (.ldc 73, 2) := by decide +kernel
theorem dX5_springs_12 : decode cX5_springs 12 = .ok (.ireturn, 1) := by decide +kernel
theorem dX5_springs_13 : decode cX5_springs 13 = .ok (.aload_n 0, 1) := by decide +kernel
theorem dX5_springs_14 : decode cX5_springs 14 = .ok (.getfield 21, 3) := by decide +kernel
theorem dX5_springs_17 : decode cX5_springs 17 = .ok (.getfield 176, 3) := by decide +kernel
theorem dX5_springs_20 : decode cX5_springs 20 = .ok (.istore_n 2, 1) := by decide +kernel
theorem dX5_springs_21 : decode cX5_springs 21 = .ok (.aload_n 0, 1) := by decide +kernel
theorem dX5_springs_22 : decode cX5_springs 22 = .ok (.getfield 21, 3) := by decide +kernel
theorem dX5_springs_25 : decode cX5_springs 25 = .ok (.iload_n 1, 1) := by decide +kernel
theorem dX5_springs_26 : decode cX5_springs 26 = .ok (.sipush 9999, 3) := by decide +kernel
theorem dX5_springs_29 : decode cX5_springs 29 = .ok (.aload_n 0, 1) := by decide +kernel
theorem dX5_springs_30 : decode cX5_springs 30 = .ok (.getfield 21, 3) := by decide +kernel
theorem dX5_springs_33 : decode cX5_springs 33 = .ok (.getfield 179, 3) := by decide +kernel
theorem dX5_springs_36 : decode cX5_springs 36 = .ok (.isub, 1) := by decide +kernel
theorem dX5_springs_37 : decode cX5_springs 37 = .ok (.invokestatic 149, 3) := by decide +kernel
theorem dX5_springs_40 : decode cX5_springs 40 = .ok (.invokevirtual 182, 3) := by decide +kernel
theorem dX5_springs_43 : decode cX5_springs 43 = .ok (.aload_n 0, 1) := by decide +kernel
theorem dX5_springs_44 : decode cX5_springs 44 = .ok (.getfield 21, 3) := by decide +kernel
theorem dX5_springs_47 : decode cX5_springs 47 = .ok (.getfield 176, 3) := by decide +kernel
theorem dX5_springs_50 : decode cX5_springs 50 = .ok (.iload_n 2, 1) := by decide +kernel
theorem dX5_springs_51 : decode cX5_springs 51 = .ok (.isub, 1) := by decide +kernel
theorem dX5_springs_52 : decode cX5_springs 52 = .ok (.ireturn, 1) := by decide +kernel
theorem dX5_walls_0 : decode cX5_walls 0 = .ok (.iload_n 1, 1) := by decide +kernel
theorem dX5_walls_1 : decode cX5_walls 1 = .ok (.iconst 0, 1) := by decide +kernel
theorem dX5_walls_2 : decode cX5_walls 2 = .ok (.iconst 4, 1) := by decide +kernel
theorem dX5_walls_3 : decode cX5_walls 3 = .ok (.invokestatic 66, 3) := by decide +kernel
theorem dX5_walls_6 : decode cX5_walls 6 = .ok (.ifCond .eq 12, 3) := by decide +kernel
theorem dX5_walls_9 : decode cX5_walls 9 = .ok (.aload_n 0, 1) := by decide +kernel
theorem dX5_walls_10 : decode cX5_walls 10 = .ok (.getfield 21, 3) := by decide +kernel
theorem dX5_walls_13 : decode cX5_walls 13 = .ok (.iload_n 1, 1) := by decide +kernel
theorem dX5_walls_14 : decode cX5_walls 14 = .ok (.invokevirtual 186, 3) := by decide +kernel
theorem dX5_walls_17 : decode cX5_walls 17 = .ok (.ireturn, 1) := by decide +kernel
theorem dX5_walls_18 : decode cX5_walls 18 = .ok (.iload_n 1, 1) := by decide +kernel
theorem dX5_walls_19 : decode cX5_walls 19 = .ok (.lookupswitch 41 #[(5, 25), (6, 33)], 25) := by decide +kernel
theorem dX5_walls_44 : decode cX5_walls 44 = .ok (.aload_n 0, 1) := by decide +kernel
theorem dX5_walls_45 : decode cX5_walls 45 = .ok (.getfield 21, 3) := by decide +kernel
theorem dX5_walls_48 : decode cX5_walls 48 = .ok (.invokevirtual 189, 3) := by decide +kernel
theorem dX5_walls_51 : decode cX5_walls 51 = .ok (.ireturn, 1) := by decide +kernel
theorem dX5_walls_52 : decode cX5_walls 52 = .ok (.aload_n 0, 1) := by decide +kernel
theorem dX5_walls_53 : decode cX5_walls 53 = .ok (.getfield 21, 3) := by decide +kernel
theorem dX5_walls_56 : decode cX5_walls 56 = .ok (.invokevirtual 192, 3) := by decide +kernel
theorem dX5_walls_59 : decode cX5_walls 59 = .ok (.ireturn, 1) := by decide +kernel
theorem dX5_walls_60 : decode cX5_walls 60 = .ok (.ldc 73, 2) := by decide +kernel
theorem dX5_walls_62 : decode cX5_walls 62 = .ok (.ireturn, 1) := by decide +kernel
theorem dX5_behind_0 : decode cX5_behind 0 = .ok (.iload_n 1, 1) := by decide +kernel
theorem dX5_behind_1 : decode cX5_behind 1 = .ok (.iconst 0, 1) := by decide +kernel
theorem dX5_behind_2 : decode cX5_behind 2 = .ok (.bipush 100, 2) := by decide +kernel
theorem dX5_behind_4 : decode cX5_behind 4 = .ok (.invokestatic 66, 3) := by decide +kernel
theorem dX5_behind_7 : decode cX5_behind 7 = .ok (.ifCond .eq 20, 3) := by decide +kernel
theorem dX5_behind_10 : decode cX5_behind 10 = .ok (.iload_n 2, 1) := by decide +kernel
theorem dX5_behind_11 : decode cX5_behind 11 = .ok (.iconst 0, 1) := by decide +kernel
theorem dX5_behind_12 : decode cX5_behind 12 = .ok (.iconst 4, 1) := by decide +kernel
theorem dX5_behind_13 : decode cX5_behind 13 = .ok (.aload_n 0, 1) := by decide +kernel
theorem dX5_behind_14 : decode cX5_behind 14 = .ok (.getfield 21, 3) := by decide +kernel
theorem dX5_behind_17 : decode cX5_behind 17 = .ok (.getfield 74, 3) := by decide +kernel
theorem dX5_behind_20 : decode cX5_behind 20 = .ok (.iadd, 1) := by decide +kernel
theorem dX5_behind_21 : decode cX5_behind 21 = .ok (.invokestatic 66, 3) := by decide +kernel
theorem dX5_behind_24 : decode cX5_behind 24 = .ok (.ifCond .ne 6, 3) := by decide +kernel
theorem dX5_behind_27 : decode cX5_behind 27 = .ok (.ldc 73, 2) := by decide +kernel
theorem dX5_behind_29 : decode cX5_behind 29 = .ok (.ireturn, 1) := by decide +kernel
theorem dX5_behind_30 : decode cX5_behind 30 = .ok (.aload_n 0, 1) := by decide +kernel
theorem dX5_behind_31 : decode cX5_behind 31 = .ok (.getfield 28, 3) := by decide +kernel
theorem dX5_behind_34 : decode cX5_behind 34 = .ok (.aload_n 0, 1) := by decide +kernel
theorem dX5_behind_35 : decode cX5_behind 35 = .ok (.getfield 21, 3) := by decide +kernel
theorem dX5_behind_38 : decode cX5_behind 38 = .ok (.invokevirtual 195, 3) := by decide +kernel
theorem dX5_behind_41 : decode cX5_behind 41 = .ok (.aload_n 0, 1) := by decide +kernel
theorem dX5_behind_42 : decode cX5_behind 42 = .ok (.getfield 28, 3) := by decide +kernel
theorem dX5_behind_45 : decode cX5_behind 45 = .ok (.iload_n 1, 1) := by decide +kernel
theorem dX5_behind_46 : decode cX5_behind 46 = .ok (.invokevirtual 182, 3) := by decide +kernel
theorem dX5_behind_49 : decode cX5_behind 49 = .ok (.iload_n 2, 1) := by decide +kernel
theorem dX5_behind_50 : decode cX5_behind 50 = .ok (.iconst 5, 1) := by decide +kernel
theorem dX5_behind_51 : decode cX5_behind 51 = .ok (.if_icmp .ge 14, 3) := by decide +kernel
theorem dX5_behind_54 : decode cX5_behind 54 = .ok (.aload_n 0, 1) := by decide +kernel
theorem dX5_behind_55 : decode cX5_behind 55 = .ok (.getfield 28, 3) := by decide +kernel
theorem dX5_behind_58 : decode cX5_behind 58 = .ok (.iload_n 2, 1) := by decide +kernel
theorem dX5_behind_59 : decode cX5_behind 59 = .ok (.invokevirtual 186, 3) := by decide +kernel
theorem dX5_behind_62 : decode cX5_behind 62 = .ok (.goto 14, 3) := by decide +kernel
theorem dX5_behind_65 : decode cX5_behind 65 = .ok (.aload_n 0, 1) := by decide +kernel
theorem dX5_behind_66 : decode cX5_behind 66 = .ok (.getfield 28, 3) := by decide +kernel
theorem dX5_behind_69 : decode cX5_behind 69 = .ok (.getfield 92, 3) := by decide +kernel
theorem dX5_behind_72 : decode cX5_behind 72 = .ok (.iload_n 2, 1) := by decide +kernel
theorem dX5_behind_73 : decode cX5_behind 73 = .ok (.iconst 5, 1) := by decide +kernel
theorem dX5_behind_74 : decode cX5_behind 74 = .ok (.isub, 1) := by decide +kernel
theorem dX5_behind_75 : decode cX5_behind 75 = .ok (.iaload, 1) := by decide +kernel
theorem dX5_behind_76 : decode cX5_behind 76 = .ok (.ireturn, 1) := by decide +kernel
theorem dX5_lost_0 : decode cX5_lost 0 = .ok (.aload_n 0, 1) := by decide +kernel
theorem dX5_lost_1 : decode cX5_lost 1 = .ok (.iload_n 1, 1) := by decide +kernel
theorem dX5_lost_2 : decode cX5_lost 2 = .ok (.invokevirtual 83, 3) := by decide +kernel
theorem dX5_lost_5 : decode cX5_lost 5 = .ok (.ifCond .ne 6, 3) := by decide +kernel
theorem dX5_lost_8 : decode cX5_lost 8 = .ok (.ldc 73, 2) := by decide +kernel
theorem dX5_lost_10 : decode cX5_lost 10 = .ok (.ireturn, 1) := by decide +kernel
theorem dX5_lost_11 : decode cX5_lost 11 = .ok (.aload_n 0, 1) := by decide +kernel
theorem dX5_lost_12 : decode cX5_lost 12 = .ok (.getfield 28, 3) := by decide +kernel
theorem dX5_lost_15 : decode cX5_lost 15 = .ok (.aload_n 0, 1) := by decide +kernel
theorem dX5_lost_16 : decode cX5_lost 16 = .ok (.getfield 21, 3) := by decide +kernel
theorem dX5_lost_19 : decode cX5_lost 19 = .ok (.invokevirtual 195, 3) := by decide +kernel
theorem dX5_lost_22 : decode cX5_lost 22 = .ok (.aload_n 0, 1) := by decide +kernel
theorem dX5_lost_23 : decode cX5_lost 23 = .ok (.getfield 28, 3) := by decide +kernel
theorem dX5_lost_26 : decode cX5_lost 26 = .ok (.iload_n 1, 1) := by decide +kernel
theorem dX5_lost_27 : decode cX5_lost 27 = .ok (.invokevirtual 199, 3) := by decide +kernel
theorem dX5_lost_30 : decode cX5_lost 30 = .ok (.iconst 0, 1) := by decide +kernel
theorem dX5_lost_31 : decode cX5_lost 31 = .ok (.istore_n 2, 1) := by decide +kernel
theorem dX5_lost_32 : decode cX5_lost 32 = .ok (.iload_n 2, 1) := by decide +kernel
theorem dX5_lost_33 : decode cX5_lost 33 = .ok (.sipush 200, 3) := by decide +kernel
theorem dX5_lost_36 : decode cX5_lost 36 = .ok (.if_icmp .gt 30, 3) := by decide +kernel
theorem dX5_lost_39 : decode cX5_lost 39 = .ok (.aload_n 0, 1) := by decide +kernel
theorem dX5_lost_40 : decode cX5_lost 40 = .ok (.getfield 28, 3) := by decide +kernel
theorem dX5_lost_43 : decode cX5_lost 43 = .ok (.iconst 0, 1) := by decide +kernel
theorem dX5_lost_44 : decode cX5_lost 44 = .ok (.invokevirtual 202, 3) := by decide +kernel
theorem dX5_lost_47 : decode cX5_lost 47 = .ok (.ifCond .ne 5, 3) := by decide +kernel
theorem dX5_lost_50 : decode cX5_lost 50 = .ok (.iload_n 2, 1) := by decide +kernel
theorem dX5_lost_51 : decode cX5_lost 51 = .ok (.ireturn, 1) := by decide +kernel
theorem dX5_lost_52 : decode cX5_lost 52 = .ok (.aload_n 0, 1) := by decide +kernel
theorem dX5_lost_53 : decode cX5_lost 53 = .ok (.getfield 28, 3) := by decide +kernel
theorem dX5_lost_56 : decode cX5_lost 56 = .ok (.iconst 1, 1) := by decide +kernel
theorem dX5_lost_57 : decode cX5_lost 57 = .ok (.invokevirtual 182, 3) := by decide +kernel
theorem dX5_lost_60 : decode cX5_lost 60 = .ok (.iinc 2 1, 3) := by decide +kernel
theorem dX5_lost_63 : decode cX5_lost 63 = .ok (.goto (-31), 3) := by decide +kernel
theorem dX5_lost_66 : decode cX5_lost 66 = .ok (.ldc 161, 2) := by decide +kernel
theorem dX5_lost_68 : decode cX5_lost 68 = .ok (.ireturn, 1) := by decide +kernel
theorem dX5_solid_0 : decode cX5_solid 0 = .ok (.iload_n 1, 1) := by decide +kernel
theorem dX5_solid_1 : decode cX5_solid 1 = .ok (.invokestatic 70, 3) := by decide +kernel
theorem dX5_solid_4 : decode cX5_solid 4 = .ok (.ifCond .ne 6, 3) := by decide +kernel
theorem dX5_solid_7 : decode cX5_solid 7 = .ok (.ldc 73, 2) := by decide +kernel
theorem dX5_solid_9 : decode cX5_solid 9 = .ok (.ireturn, 1) := by decide +kernel
theorem dX5_solid_10 : decode cX5_solid 10 = .ok (.aload_n 0, 1) := by decide +kernel
theorem dX5_solid_11 : decode cX5_solid 11 = .ok (.getfield 28, 3) := by decide +kernel
theorem dX5_solid_14 : decode cX5_solid 14 = .ok (.aload_n 0, 1) := by decide +kernel
theorem dX5_solid_15 : decode cX5_solid 15 = .ok (.getfield 21, 3) := by decide +kernel
theorem dX5_solid_18 : decode cX5_solid 18 = .ok (.invokevirtual 195, 3) := by decide +kernel
theorem dX5_solid_21 : decode cX5_solid 21 = .ok (.aload_n 0, 1) := by decide +kernel
theorem dX5_solid_22 : decode cX5_solid 22 = .ok (.getfield 28, 3) := by decide +kernel
theorem dX5_solid_25 : decode cX5_solid 25 = .ok (.invokevirtual 205, 3) := by decide +kernel
theorem dX5_solid_28 : decode cX5_solid 28 = .ok (.iconst 0, 1) := by decide +kernel
theorem dX5_solid_29 : decode cX5_solid 29 = .ok (.istore_n 2, 1) := by decide +kernel
theorem dX5_solid_30 : decode cX5_solid 30 = .ok (.iload_n 2, 1) := by decide +kernel
theorem dX5_solid_31 : decode cX5_solid 31 = .ok (.sipush 200, 3) := by decide +kernel
theorem dX5_solid_34 : decode cX5_solid 34 = .ok (.if_icmp .gt 31, 3) := by decide +kernel
theorem dX5_solid_37 : decode cX5_solid 37 = .ok (.aload_n 0, 1) := by decide +kernel
theorem dX5_solid_38 : decode cX5_solid 38 = .ok (.getfield 28, 3) := by decide +kernel
theorem dX5_solid_41 : decode cX5_solid 41 = .ok (.getfield 128, 3) := by decide +kernel
theorem dX5_solid_44 : decode cX5_solid 44 = .ok (.iload_n 1, 1) := by decide +kernel
theorem dX5_solid_45 : decode cX5_solid 45 = .ok (.iaload, 1) := by decide +kernel
theorem dX5_solid_46 : decode cX5_solid 46 = .ok (.ifCond .ne 5, 3) := by decide +kernel
theorem dX5_solid_49 : decode cX5_solid 49 = .ok (.iload_n 2, 1) := by decide +kernel
theorem dX5_solid_50 : decode cX5_solid 50 = .ok (.ireturn, 1) := by decide +kernel
theorem dX5_solid_51 : decode cX5_solid 51 = .ok (.aload_n 0, 1) := by decide +kernel
theorem dX5_solid_52 : decode cX5_solid 52 = .ok (.getfield 28, 3) := by decide +kernel
theorem dX5_solid_55 : decode cX5_solid 55 = .ok (.iconst 1, 1) := by decide +kernel
theorem dX5_solid_56 : decode cX5_solid 56 = .ok (.invokevirtual 182, 3) := by decide +kernel
theorem dX5_solid_59 : decode cX5_solid 59 = .ok (.iinc 2 1, 3) := by decide +kernel
theorem dX5_solid_62 : decode cX5_solid 62 = .ok (.goto (-32), 3) := by decide +kernel
theorem dX5_solid_65 : decode cX5_solid 65 = .ok (.ldc 161, 2) := by decide +kernel
theorem dX5_solid_67 : decode cX5_solid 67 = .ok (.ireturn, 1) := by decide +kernel
theorem dX5_spoon_0 : decode cX5_spoon 0 = .ok (.aload_n 0, 1) := by decide +kernel
theorem dX5_spoon_1 : decode cX5_spoon 1 = .ok (.iload_n 1, 1) := by decide +kernel
theorem dX5_spoon_2 : decode cX5_spoon 2 = .ok (.invokevirtual 83, 3) := by decide +kernel
theorem dX5_spoon_5 : decode cX5_spoon 5 = .ok (.ifCond .eq 13, 3) := by decide +kernel
theorem dX5_spoon_8 : decode cX5_spoon 8 = .ok (.iload_n 2, 1) := by decide +kernel
theorem dX5_spoon_9 : decode cX5_spoon 9 = .ok (.iconst 0, 1) := by decide +kernel
theorem dX5_spoon_10 : decode cX5_spoon 10 = .ok (.bipush 60, 2) := by decide +kernel
theorem dX5_spoon_12 : decode cX5_spoon 12 = .ok (.invokestatic 66, 3) := by decide +kernel
theorem dX5_spoon_15 : decode cX5_spoon 15 = .ok (.ifCond .ne 6, 3) := by decide +kernel
theorem dX5_spoon_18 : decode cX5_spoon 18 = .ok (.ldc 73, 2) := by decide +kernel
theorem dX5_spoon_20 : decode cX5_spoon 20 = .ok (.ireturn, 1) := by decide +kernel
theorem dX5_spoon_21 : decode cX5_spoon 21 = .ok (.iconst 0, 1) := by decide +kernel
theorem dX5_spoon_22 : decode cX5_spoon 22 = .ok (.istore_n 3, 1) := by decide +kernel
theorem dX5_spoon_23 : decode cX5_spoon 23 = .ok (.iload_n 3, 1) := by decide +kernel
theorem dX5_spoon_24 : decode cX5_spoon 24 = .ok (.bipush 99, 2) := by decide +kernel
theorem dX5_spoon_26 : decode cX5_spoon 26 = .ok (.if_icmp .gt 67, 3) := by decide +kernel
theorem dX5_spoon_29 : decode cX5_spoon 29 = .ok (.aload_n 0, 1) := by decide +kernel
theorem dX5_spoon_30 : decode cX5_spoon 30 = .ok (.getfield 28, 3) := by decide +kernel
theorem dX5_spoon_33 : decode cX5_spoon 33 = .ok (.aload_n 0, 1) := by decide +kernel
theorem dX5_spoon_34 : decode cX5_spoon 34 = .ok (.getfield 21, 3) := by decide +kernel
theorem dX5_spoon_37 : decode cX5_spoon 37 = .ok (.invokevirtual 195, 3) := by decide +kernel
theorem dX5_spoon_40 : decode cX5_spoon 40 = .ok (.aload_n 0, 1) := by decide +kernel
theorem dX5_spoon_41 : decode cX5_spoon 41 = .ok (.getfield 28, 3) := by decide +kernel
theorem dX5_spoon_44 : decode cX5_spoon 44 = .ok (.iload_n 1, 1) := by decide +kernel
theorem dX5_spoon_45 : decode cX5_spoon 45 = .ok (.invokevirtual 199, 3) := by decide +kernel
theorem dX5_spoon_48 : decode cX5_spoon 48 = .ok (.aload_n 0, 1) := by decide +kernel
theorem dX5_spoon_49 : decode cX5_spoon 49 = .ok (.getfield 28, 3) := by decide +kernel
theorem dX5_spoon_52 : decode cX5_spoon 52 = .ok (.aload_n 0, 1) := by decide +kernel
theorem dX5_spoon_53 : decode cX5_spoon 53 = .ok (.getfield 21, 3) := by decide +kernel
theorem dX5_spoon_56 : decode cX5_spoon 56 = .ok (.getfield 95, 3) := by decide +kernel
theorem dX5_spoon_59 : decode cX5_spoon 59 = .ok (.iload_n 1, 1) := by decide +kernel
theorem dX5_spoon_60 : decode cX5_spoon 60 = .ok (.iaload, 1) := by decide +kernel
theorem dX5_spoon_61 : decode cX5_spoon 61 = .ok (.iload_n 3, 1) := by decide +kernel
theorem dX5_spoon_62 : decode cX5_spoon 62 = .ok (.invokevirtual 173, 3) := by decide +kernel
theorem dX5_spoon_65 : decode cX5_spoon 65 = .ok (.pop, 1) := by decide +kernel
theorem dX5_spoon_66 : decode cX5_spoon 66 = .ok (.aload_n 0, 1) := by decide +kernel
theorem dX5_spoon_67 : decode cX5_spoon 67 = .ok (.getfield 28, 3) := by decide +kernel
theorem dX5_spoon_70 : decode cX5_spoon 70 = .ok (.iload_n 2, 1) := by decide +kernel
theorem dX5_spoon_71 : decode cX5_spoon 71 = .ok (.invokevirtual 182, 3) := by decide +kernel
theorem dX5_spoon_74 : decode cX5_spoon 74 = .ok (.aload_n 0, 1) := by decide +kernel
theorem dX5_spoon_75 : decode cX5_spoon 75 = .ok (.getfield 28, 3) := by decide +kernel
theorem dX5_spoon_78 : decode cX5_spoon 78 = .ok (.iconst 0, 1) := by decide +kernel
theorem dX5_spoon_79 : decode cX5_spoon 79 = .ok (.invokevirtual 202, 3) := by decide +kernel
theorem dX5_spoon_82 : decode cX5_spoon 82 = .ok (.ifCond .eq 5, 3) := by decide +kernel
theorem dX5_spoon_85 : decode cX5_spoon 85 = .ok (.iload_n 3, 1) := by decide +kernel
theorem dX5_spoon_86 : decode cX5_spoon 86 = .ok (.ireturn, 1) := by decide +kernel
theorem dX5_spoon_87 : decode cX5_spoon 87 = .ok (.iinc 3 1, 3) := by decide +kernel
theorem dX5_spoon_90 : decode cX5_spoon 90 = .ok (.goto (-67), 3) := by decide +kernel
theorem dX5_spoon_93 : decode cX5_spoon 93 = .ok (.ldc 161, 2) := by decide +kernel
theorem dX5_spoon_95 : decode cX5_spoon 95 = .ok (.ireturn, 1) := by decide +kernel
theorem dX5_place_0 : decode cX5_place 0 = .ok (.aload_n 0, 1) := by decide +kernel
theorem dX5_place_1 : decode cX5_place 1 = .ok (.iload_n 1, 1) := by decide +kernel
theorem dX5_place_2 : decode cX5_place 2 = .ok (.invokevirtual 83, 3) := by decide +kernel
theorem dX5_place_5 : decode cX5_place 5 = .ok (.ifCond .eq 22, 3) := by decide +kernel
theorem dX5_place_8 : decode cX5_place 8 = .ok (.iload_n 2, 1) := by decide +kernel
theorem dX5_place_9 : decode cX5_place 9 = .ok (.iconst 1, 1) := by decide +kernel
theorem dX5_place_10 : decode cX5_place 10 = .ok (.bipush 60, 2) := by decide +kernel
theorem dX5_place_12 : decode cX5_place 12 = .ok (.invokestatic 66, 3) := by decide +kernel
theorem dX5_place_15 : decode cX5_place 15 = .ok (.ifCond .eq 12, 3) := by decide +kernel
theorem dX5_place_18 : decode cX5_place 18 = .ok (.iload_n 3, 1) := by decide +kernel
theorem dX5_place_19 : decode cX5_place 19 = .ok (.iconst 0, 1) := by decide +kernel
theorem dX5_place_20 : decode cX5_place 20 = .ok (.iconst 1, 1) := by decide +kernel
theorem dX5_place_21 : decode cX5_place 21 = .ok (.invokestatic 66, 3) := by decide +kernel
theorem dX5_place_24 : decode cX5_place 24 = .ok (.ifCond .ne 6, 3) := by decide +kernel
theorem dX5_place_27 : decode cX5_place 27 = .ok (.ldc 73, 2) := by decide +kernel
theorem dX5_place_29 : decode cX5_place 29 = .ok (.ireturn, 1) := by decide +kernel
theorem dX5_place_30 : decode cX5_place 30 = .ok (.iconst 0, 1) := by decide +kernel
theorem dX5_place_31 : decode cX5_place 31 = .ok (.istore 4, 2) := by decide +kernel
theorem dX5_place_33 : decode cX5_place 33 = .ok (.iconst (-1), 1) := by decide +kernel
theorem dX5_place_34 : decode cX5_place 34 = .ok (.istore 5, 2) := by decide +kernel
theorem dX5_place_36 : decode cX5_place 36 = .ok (.iconst 0, 1) := by decide +kernel
theorem dX5_place_37 : decode cX5_place 37 = .ok (.istore 6, 2) := by decide +kernel
theorem dX5_place_39 : decode cX5_place 39 = .ok (.iload 6, 2) := by decide +kernel
theorem dX5_place_41 : decode cX5_place 41 = .ok (.bipush 6, 2) := by decide +kernel
theorem dX5_place_43 : decode cX5_place 43 = .ok (.if_icmp .ge 64, 3) := by decide +kernel
theorem dX5_place_46 : decode cX5_place 46 = .ok (.aload_n 0, 1) := by decide +kernel
theorem dX5_place_47 : decode cX5_place 47 = .ok (.getfield 28, 3) := by decide +kernel
theorem dX5_place_50 : decode cX5_place 50 = .ok (.aload_n 0, 1) := by decide +kernel
theorem dX5_place_51 : decode cX5_place 51 = .ok (.getfield 21, 3) := by decide +kernel
theorem dX5_place_54 : decode cX5_place 54 = .ok (.invokevirtual 195, 3) := by decide +kernel
theorem dX5_place_57 : decode cX5_place 57 = .ok (.aload_n 0, 1) := by decide +kernel
theorem dX5_place_58 : decode cX5_place 58 = .ok (.getfield 28, 3) := by decide +kernel
theorem dX5_place_61 : decode cX5_place 61 = .ok (.iload_n 1, 1) := by decide +kernel
theorem dX5_place_62 : decode cX5_place 62 = .ok (.iload 6, 2) := by decide +kernel
theorem dX5_place_64 : decode cX5_place 64 = .ok (.invokevirtual 124, 3) := by decide +kernel
theorem dX5_place_67 : decode cX5_place 67 = .ok (.pop, 1) := by decide +kernel
theorem dX5_place_68 : decode cX5_place 68 = .ok (.aload_n 0, 1) := by decide +kernel
theorem dX5_place_69 : decode cX5_place 69 = .ok (.getfield 28, 3) := by decide +kernel
theorem dX5_place_72 : decode cX5_place 72 = .ok (.iload_n 2, 1) := by decide +kernel
theorem dX5_place_73 : decode cX5_place 73 = .ok (.invokevirtual 182, 3) := by decide +kernel
theorem dX5_place_76 : decode cX5_place 76 = .ok (.aload_n 0, 1) := by decide +kernel
theorem dX5_place_77 : decode cX5_place 77 = .ok (.getfield 28, 3) := by decide +kernel
theorem dX5_place_80 : decode cX5_place 80 = .ok (.getfield 176, 3) := by decide +kernel
theorem dX5_place_83 : decode cX5_place 83 = .ok (.iload 5, 2) := by decide +kernel
theorem dX5_place_85 : decode cX5_place 85 = .ok (.if_icmp .le 16, 3) := by decide +kernel
theorem dX5_place_88 : decode cX5_place 88 = .ok (.iload 6, 2) := by decide +kernel
theorem dX5_place_90 : decode cX5_place 90 = .ok (.istore 4, 2) := by decide +kernel
theorem dX5_place_92 : decode cX5_place 92 = .ok (.aload_n 0, 1) := by decide +kernel
theorem dX5_place_93 : decode cX5_place 93 = .ok (.getfield 28, 3) := by decide +kernel
theorem dX5_place_96 : decode cX5_place 96 = .ok (.getfield 176, 3) := by decide +kernel
theorem dX5_place_99 : decode cX5_place 99 = .ok (.istore 5, 2) := by decide +kernel
theorem dX5_place_101 : decode cX5_place 101 = .ok (.iinc 6 1, 3) := by decide +kernel
theorem dX5_place_104 : decode cX5_place 104 = .ok (.goto (-65), 3) := by decide +kernel
theorem dX5_place_107 : decode cX5_place 107 = .ok (.iload_n 3, 1) := by decide +kernel
theorem dX5_place_108 : decode cX5_place 108 = .ok (.ifCond .ne 8, 3) := by decide +kernel
theorem dX5_place_111 : decode cX5_place 111 = .ok (.iload 4, 2) := by decide +kernel
theorem dX5_place_113 : decode cX5_place 113 = .ok (.goto 5, 3) := by decide +kernel
theorem dX5_place_116 : decode cX5_place 116 = .ok (.iload 5, 2) := by decide +kernel
theorem dX5_place_118 : decode cX5_place 118 = .ok (.ireturn, 1) := by decide +kernel
theorem dX5_becomes_0 : decode cX5_becomes 0 = .ok (.aload_n 0, 1) := by decide +kernel
theorem dX5_becomes_1 : decode cX5_becomes 1 = .ok (.iload_n 1, 1) := by decide +kernel
theorem dX5_becomes_2 : decode cX5_becomes 2 = .ok (.invokevirtual 83, 3) := by decide +kernel
theorem dX5_becomes_5 : decode cX5_becomes 5 = .ok (.ifCond .eq 22, 3) := by decide +kernel
theorem dX5_becomes_8 : decode cX5_becomes 8 = .ok (.iload_n 2, 1) := by decide +kernel
theorem dX5_becomes_9 : decode cX5_becomes 9 = .ok (.iconst 1, 1) := by decide +kernel
theorem dX5_becomes_10 : decode cX5_becomes 10 = .ok (.bipush 60, 2) := by decide +kernel
theorem dX5_becomes_12 : decode cX5_becomes 12 = .ok (.invokestatic 66, 3) := by decide +kernel
theorem dX5_becomes_15 : decode cX5_becomes 15 = .ok (.ifCond .eq 12, 3) := by decide +kernel
theorem dX5_becomes_18 : decode cX5_becomes 18 = .ok (.iload_n 3, 1) := by decide +kernel
theorem dX5_becomes_19 : decode cX5_becomes 19 = .ok (.iconst 0, 1) := by decide +kernel
theorem dX5_becomes_20 : decode cX5_becomes 20 = .ok (.iconst 1, 1) := by decide +kernel
theorem dX5_becomes_21 : decode cX5_becomes 21 = .ok (.invokestatic 66, 3) := by decide +kernel
theorem dX5_becomes_24 : decode cX5_becomes 24 = .ok (.ifCond .ne 6, 3) := by decide +kernel
theorem dX5_becomes_27 : decode cX5_becomes 27 = .ok (.ldc 73, 2) := by decide +kernel
theorem dX5_becomes_29 : decode cX5_becomes 29 = .ok (.ireturn, 1) := by decide +kernel
theorem dX5_becomes_30 : decode cX5_becomes 30 = .ok (.iconst 0, 1) := by decide +kernel
theorem dX5_becomes_31 : decode cX5_becomes 31 = .ok (.istore 4, 2) := by decide +kernel
theorem dX5_becomes_33 : decode cX5_becomes 33 = .ok (.iconst (-1), 1) := by decide +kernel
theorem dX5_becomes_34 : decode cX5_becomes 34 = .ok (.istore 5, 2) := by decide +kernel
theorem dX5_becomes_36 : decode cX5_becomes 36 = .ok (.iconst 0, 1) := by decide +kernel
theorem dX5_becomes_37 : decode cX5_becomes 37 = .ok (.istore 6, 2) := by decide +kernel
theorem dX5_becomes_39 : decode cX5_becomes 39 = .ok (.iload 6, 2) := by decide +kernel
theorem dX5_becomes_41 : decode cX5_becomes 41 = .ok (.iconst 5, 1) := by decide +kernel
theorem dX5_becomes_42 : decode cX5_becomes 42 = .ok (.if_icmp .gt 64, 3) := by decide +kernel
theorem dX5_becomes_45 : decode cX5_becomes 45 = .ok (.aload_n 0, 1) := by decide +kernel
theorem dX5_becomes_46 : decode cX5_becomes 46 = .ok (.getfield 28, 3) := by decide +kernel
theorem dX5_becomes_49 : decode cX5_becomes 49 = .ok (.aload_n 0, 1) := by decide +kernel
theorem dX5_becomes_50 : decode cX5_becomes 50 = .ok (.getfield 21, 3) := by decide +kernel
theorem dX5_becomes_53 : decode cX5_becomes 53 = .ok (.invokevirtual 195, 3) := by decide +kernel
theorem dX5_becomes_56 : decode cX5_becomes 56 = .ok (.aload_n 0, 1) := by decide +kernel
theorem dX5_becomes_57 : decode cX5_becomes 57 = .ok (.getfield 28, 3) := by decide +kernel
theorem dX5_becomes_60 : decode cX5_becomes 60 = .ok (.getfield 86, 3) := by decide +kernel
theorem dX5_becomes_63 : decode cX5_becomes 63 = .ok (.iload_n 1, 1) := by decide +kernel
theorem dX5_becomes_64 : decode cX5_becomes 64 = .ok (.iload 6, 2) := by decide +kernel
theorem dX5_becomes_66 : decode cX5_becomes 66 = .ok (.iastore, 1) := by decide +kernel
theorem dX5_becomes_67 : decode cX5_becomes 67 = .ok (.aload_n 0, 1) := by decide +kernel
theorem dX5_becomes_68 : decode cX5_becomes 68 = .ok (.getfield 28, 3) := by decide +kernel
theorem dX5_becomes_71 : decode cX5_becomes 71 = .ok (.iload_n 2, 1) := by decide +kernel
theorem dX5_becomes_72 : decode cX5_becomes 72 = .ok (.invokevirtual 182, 3) := by decide +kernel
theorem dX5_becomes_75 : decode cX5_becomes 75 = .ok (.aload_n 0, 1) := by decide +kernel
theorem dX5_becomes_76 : decode cX5_becomes 76 = .ok (.getfield 28, 3) := by decide +kernel
theorem dX5_becomes_79 : decode cX5_becomes 79 = .ok (.getfield 176, 3) := by decide +kernel
theorem dX5_becomes_82 : decode cX5_becomes 82 = .ok (.iload 5, 2) := by decide +kernel
theorem dX5_becomes_84 : decode cX5_becomes 84 = .ok (.if_icmp .le 16, 3) := by decide +kernel
theorem dX5_becomes_87 : decode cX5_becomes 87 = .ok (.iload 6, 2) := by decide +kernel
theorem dX5_becomes_89 : decode cX5_becomes 89 = .ok (.istore 4, 2) := by decide +kernel
theorem dX5_becomes_91 : decode cX5_becomes 91 = .ok (.aload_n 0, 1) := by decide +kernel
theorem dX5_becomes_92 : decode cX5_becomes 92 = .ok (.getfield 28, 3) := by decide +kernel
theorem dX5_becomes_95 : decode cX5_becomes 95 = .ok (.getfield 176, 3) := by decide +kernel
theorem dX5_becomes_98 : decode cX5_becomes 98 = .ok (.istore 5, 2) := by decide +kernel
theorem dX5_becomes_100 : decode cX5_becomes 100 = .ok (.iinc 6 1, 3) := by decide +kernel
theorem dX5_becomes_103 : decode cX5_becomes 103 = .ok (.goto (-64), 3) := by decide +kernel
theorem dX5_becomes_106 : decode cX5_becomes 106 = .ok (.iload_n 3, 1) := by decide +kernel
theorem dX5_becomes_107 : decode cX5_becomes 107 = .ok (.ifCond .ne 8, 3) := by decide +kernel
theorem dX5_becomes_110 : decode cX5_becomes 110 = .ok (.iload 4, 2) := by decide +kernel
theorem dX5_becomes_112 : decode cX5_becomes 112 = .ok (.goto 5, 3) := by decide +kernel
theorem dX5_becomes_115 : decode cX5_becomes 115 = .ok (.iload 5, 2) := by decide +kernel
theorem dX5_becomes_117 : decode cX5_becomes 117 = .ok (.ireturn, 1) := by decide +kernel
theorem dX5_eyes_0 : decode cX5_eyes 0 = .ok (.iload_n 1, 1) := by decide +kernel
theorem dX5_eyes_1 : decode cX5_eyes 1 = .ok (.iconst 0, 1) := by decide +kernel
theorem dX5_eyes_2 : decode cX5_eyes 2 = .ok (.bipush 60, 2) := by decide +kernel
theorem dX5_eyes_4 : decode cX5_eyes 4 = .ok (.invokestatic 66, 3) := by decide +kernel
theorem dX5_eyes_7 : decode cX5_eyes 7 = .ok (.ifCond .eq 13, 3) := by decide +kernel
theorem dX5_eyes_10 : decode cX5_eyes 10 = .ok (.iload_n 2, 1) := by decide +kernel
theorem dX5_eyes_11 : decode cX5_eyes 11 = .ok (.iconst 0, 1) := by decide +kernel
theorem dX5_eyes_12 : decode cX5_eyes 12 = .ok (.ldc 208, 2) := by decide +kernel
theorem dX5_eyes_14 : decode cX5_eyes 14 = .ok (.invokestatic 66, 3) := by decide +kernel
theorem dX5_eyes_17 : decode cX5_eyes 17 = .ok (.ifCond .ne 6, 3) := by decide +kernel
theorem dX5_eyes_20 : decode cX5_eyes 20 = .ok (.ldc 73, 2) := by decide +kernel
theorem dX5_eyes_22 : decode cX5_eyes 22 = .ok (.ireturn, 1) := by decide +kernel
theorem dX5_eyes_23 : decode cX5_eyes 23 = .ok (.bipush 99, 2) := by decide +kernel
theorem dX5_eyes_25 : decode cX5_eyes 25 = .ok (.istore_n 3, 1) := by decide +kernel
theorem dX5_eyes_26 : decode cX5_eyes 26 = .ok (.iconst 0, 1) := by decide +kernel
theorem dX5_eyes_27 : decode cX5_eyes 27 = .ok (.istore 4, 2) := by decide +kernel
theorem dX5_eyes_29 : decode cX5_eyes 29 = .ok (.iload 4, 2) := by decide +kernel
theorem dX5_eyes_31 : decode cX5_eyes 31 = .ok (.bipush 99, 2) := by decide +kernel
theorem dX5_eyes_33 : decode cX5_eyes 33 = .ok (.if_icmp .gt 71, 3) := by decide +kernel
theorem dX5_eyes_36 : decode cX5_eyes 36 = .ok (.iload_n 3, 1) := by decide +kernel
theorem dX5_eyes_37 : decode cX5_eyes 37 = .ok (.ifCond .lt 67, 3) := by decide +kernel
theorem dX5_eyes_40 : decode cX5_eyes 40 = .ok (.aload_n 0, 1) := by decide +kernel
theorem dX5_eyes_41 : decode cX5_eyes 41 = .ok (.getfield 28, 3) := by decide +kernel
theorem dX5_eyes_44 : decode cX5_eyes 44 = .ok (.aload_n 0, 1) := by decide +kernel
theorem dX5_eyes_45 : decode cX5_eyes 45 = .ok (.getfield 21, 3) := by decide +kernel
theorem dX5_eyes_48 : decode cX5_eyes 48 = .ok (.invokevirtual 195, 3) := by decide +kernel
theorem dX5_eyes_51 : decode cX5_eyes 51 = .ok (.aload_n 0, 1) := by decide +kernel
theorem dX5_eyes_52 : decode cX5_eyes 52 = .ok (.getfield 28, 3) := by decide +kernel
theorem dX5_eyes_55 : decode cX5_eyes 55 = .ok (.getfield 146, 3) := by decide +kernel
theorem dX5_eyes_58 : decode cX5_eyes 58 = .ok (.iconst 1, 1) := by decide +kernel
theorem dX5_eyes_59 : decode cX5_eyes 59 = .ok (.iload_n 3, 1) := by decide +kernel
theorem dX5_eyes_60 : decode cX5_eyes 60 = .ok (.iastore, 1) := by decide +kernel
theorem dX5_eyes_61 : decode cX5_eyes 61 = .ok (.aload_n 0, 1) := by decide +kernel
theorem dX5_eyes_62 : decode cX5_eyes 62 = .ok (.getfield 28, 3) := by decide +kernel
theorem dX5_eyes_65 : decode cX5_eyes 65 = .ok (.iconst (-1), 1) := by decide +kernel
theorem dX5_eyes_66 : decode cX5_eyes 66 = .ok (.putfield 209, 3) := by decide +kernel
theorem dX5_eyes_69 : decode cX5_eyes 69 = .ok (.aload_n 0, 1) := by decide +kernel
theorem dX5_eyes_70 : decode cX5_eyes 70 = .ok (.getfield 28, 3) := by decide +kernel
theorem dX5_eyes_73 : decode cX5_eyes 73 = .ok (.iload_n 1, 1) := by decide +kernel
theorem dX5_eyes_74 : decode cX5_eyes 74 = .ok (.invokevirtual 182, 3) := by decide +kernel
theorem dX5_eyes_77 : decode cX5_eyes 77 = .ok (.aload_n 0, 1) := by decide +kernel
theorem dX5_eyes_78 : decode cX5_eyes 78 = .ok (.getfield 28, 3) := by decide +kernel
theorem dX5_eyes_81 : decode cX5_eyes 81 = .ok (.getfield 176, 3) := by decide +kernel
theorem dX5_eyes_84 : decode cX5_eyes 84 = .ok (.iload_n 2, 1) := by decide +kernel
theorem dX5_eyes_85 : decode cX5_eyes 85 = .ok (.if_icmp .lt 5, 3) := by decide +kernel
theorem dX5_eyes_88 : decode cX5_eyes 88 = .ok (.iload_n 3, 1) := by decide +kernel
theorem dX5_eyes_89 : decode cX5_eyes 89 = .ok (.ireturn, 1) := by decide +kernel
theorem dX5_eyes_90 : decode cX5_eyes 90 = .ok (.aload_n 0, 1) := by decide +kernel
theorem dX5_eyes_91 : decode cX5_eyes 91 = .ok (.getfield 28, 3) := by decide +kernel
theorem dX5_eyes_94 : decode cX5_eyes 94 = .ok (.getfield 209, 3) := by decide +kernel
theorem dX5_eyes_97 : decode cX5_eyes 97 = .ok (.istore_n 3, 1) := by decide +kernel
theorem dX5_eyes_98 : decode cX5_eyes 98 = .ok (.iinc 4 1, 3) := by decide +kernel
theorem dX5_eyes_101 : decode cX5_eyes 101 = .ok (.goto (-72), 3) := by decide +kernel
theorem dX5_eyes_104 : decode cX5_eyes 104 = .ok (.ldc 161, 2) := by decide +kernel
theorem dX5_eyes_106 : decode cX5_eyes 106 = .ok (.ireturn, 1) := by decide +kernel
theorem dX5_like_0 : decode cX5_like 0 = .ok (.iload_n 1, 1) := by decide +kernel
theorem dX5_like_1 : decode cX5_like 1 = .ok (.invokestatic 212, 3) := by decide +kernel
theorem dX5_like_4 : decode cX5_like 4 = .ok (.ifCond .eq 12, 3) := by decide +kernel
theorem dX5_like_7 : decode cX5_like 7 = .ok (.iload_n 2, 1) := by decide +kernel
theorem dX5_like_8 : decode cX5_like 8 = .ok (.iconst 0, 1) := by decide +kernel
theorem dX5_like_9 : decode cX5_like 9 = .ok (.iconst 1, 1) := by decide +kernel
theorem dX5_like_10 : decode cX5_like 10 = .ok (.invokestatic 66, 3) := by decide +kernel
theorem dX5_like_13 : decode cX5_like 13 = .ok (.ifCond .ne 6, 3) := by decide +kernel
theorem dX5_like_16 : decode cX5_like 16 = .ok (.ldc 73, 2) := by decide +kernel
theorem dX5_like_18 : decode cX5_like 18 = .ok (.ireturn, 1) := by decide +kernel
theorem dX5_like_19 : decode cX5_like 19 = .ok (.aload_n 0, 1) := by decide +kernel
theorem dX5_like_20 : decode cX5_like 20 = .ok (.iload_n 1, 1) := by decide +kernel
theorem dX5_like_21 : decode cX5_like 21 = .ok (.invokevirtual 215, 3) := by decide +kernel
theorem dX5_like_24 : decode cX5_like 24 = .ok (.ifCond .eq 6, 3) := by decide +kernel
theorem dX5_like_27 : decode cX5_like 27 = .ok (.ldc 218, 2) := by decide +kernel
theorem dX5_like_29 : decode cX5_like 29 = .ok (.ireturn, 1) := by decide +kernel
theorem dX5_like_30 : decode cX5_like 30 = .ok (.aload_n 0, 1) := by decide +kernel
theorem dX5_like_31 : decode cX5_like 31 = .ok (.getfield 21, 3) := by decide +kernel
theorem dX5_like_34 : decode cX5_like 34 = .ok (.getfield 74, 3) := by decide +kernel
theorem dX5_like_37 : decode cX5_like 37 = .ok (.ifCond .ne 6, 3) := by decide +kernel
theorem dX5_like_40 : decode cX5_like 40 = .ok (.ldc 161, 2) := by decide +kernel
theorem dX5_like_42 : decode cX5_like 42 = .ok (.ireturn, 1) := by decide +kernel
theorem dX5_like_43 : decode cX5_like 43 = .ok (.aload_n 0, 1) := by decide +kernel
theorem dX5_like_44 : decode cX5_like 44 = .ok (.aload_n 0, 1) := by decide +kernel
theorem dX5_like_45 : decode cX5_like 45 = .ok (.getfield 44, 3) := by decide +kernel
theorem dX5_like_48 : decode cX5_like 48 = .ok (.iload_n 1, 1) := by decide +kernel
theorem dX5_like_49 : decode cX5_like 49 = .ok (.aaload, 1) := by decide +kernel
theorem dX5_like_50 : decode cX5_like 50 = .ok (.invokevirtual 219, 3) := by decide +kernel
theorem dX5_like_53 : decode cX5_like 53 = .ok (.iconst 0, 1) := by decide +kernel
theorem dX5_like_54 : decode cX5_like 54 = .ok (.istore_n 3, 1) := by decide +kernel
theorem dX5_like_55 : decode cX5_like 55 = .ok (.iconst 1, 1) := by decide +kernel
theorem dX5_like_56 : decode cX5_like 56 = .ok (.istore 4, 2) := by decide +kernel
theorem dX5_like_58 : decode cX5_like 58 = .ok (.iload 4, 2) := by decide +kernel
theorem dX5_like_60 : decode cX5_like 60 = .ok (.aload_n 0, 1) := by decide +kernel
theorem dX5_like_61 : decode cX5_like 61 = .ok (.getfield 21, 3) := by decide +kernel
theorem dX5_like_64 : decode cX5_like 64 = .ok (.getfield 74, 3) := by decide +kernel
theorem dX5_like_67 : decode cX5_like 67 = .ok (.if_icmp .ge 28, 3) := by decide +kernel
theorem dX5_like_70 : decode cX5_like 70 = .ok (.aload_n 0, 1) := by decide +kernel
theorem dX5_like_71 : decode cX5_like 71 = .ok (.getfield 57, 3) := by decide +kernel
theorem dX5_like_74 : decode cX5_like 74 = .ok (.iload 4, 2) := by decide +kernel
theorem dX5_like_76 : decode cX5_like 76 = .ok (.iaload, 1) := by decide +kernel
theorem dX5_like_77 : decode cX5_like 77 = .ok (.aload_n 0, 1) := by decide +kernel
theorem dX5_like_78 : decode cX5_like 78 = .ok (.getfield 57, 3) := by decide +kernel
theorem dX5_like_81 : decode cX5_like 81 = .ok (.iload_n 3, 1) := by decide +kernel
theorem dX5_like_82 : decode cX5_like 82 = .ok (.iaload, 1) := by decide +kernel
theorem dX5_like_83 : decode cX5_like 83 = .ok (.if_icmp .ge 6, 3) := by decide +kernel
theorem dX5_like_86 : decode cX5_like 86 = .ok (.iload 4, 2) := by decide +kernel
theorem dX5_like_88 : decode cX5_like 88 = .ok (.istore_n 3, 1) := by decide +kernel
theorem dX5_like_89 : decode cX5_like 89 = .ok (.iinc 4 1, 3) := by decide +kernel
theorem dX5_like_92 : decode cX5_like 92 = .ok (.goto (-34), 3) := by decide +kernel
theorem dX5_like_95 : decode cX5_like 95 = .ok (.iload_n 2, 1) := by decide +kernel
theorem dX5_like_96 : decode cX5_like 96 = .ok (.ifCond .ne 7, 3) := by decide +kernel
theorem dX5_like_99 : decode cX5_like 99 = .ok (.iload_n 3, 1) := by decide +kernel
theorem dX5_like_100 : decode cX5_like 100 = .ok (.goto 9, 3) := by decide +kernel
theorem dX5_like_103 : decode cX5_like 103 = .ok (.aload_n 0, 1) := by decide +kernel
theorem dX5_like_104 : decode cX5_like 104 = .ok (.getfield 57, 3) := by decide +kernel
theorem dX5_like_107 : decode cX5_like 107 = .ok (.iload_n 3, 1) := by decide +kernel
theorem dX5_like_108 : decode cX5_like 108 = .ok (.iaload, 1) := by decide +kernel
theorem dX5_like_109 : decode cX5_like 109 = .ok (.ireturn, 1) := by decide +kernel
theorem dX5_fee_0 : decode cX5_fee 0 = .ok (.aload_n 0, 1) := by decide +kernel
theorem dX5_fee_1 : decode cX5_fee 1 = .ok (.getfield 21, 3) := by decide +kernel
theorem dX5_fee_4 : decode cX5_fee 4 = .ok (.getfield 223, 3) := by decide +kernel
theorem dX5_fee_7 : decode cX5_fee 7 = .ok (.iconst 1, 1) := by decide +kernel
theorem dX5_fee_8 : decode cX5_fee 8 = .ok (.iaload, 1) := by decide +kernel
theorem dX5_fee_9 : decode cX5_fee 9 = .ok (.istore_n 1, 1) := by decide +kernel
theorem dX5_fee_10 : decode cX5_fee 10 = .ok (.iload_n 1, 1) := by decide +kernel
theorem dX5_fee_11 : decode cX5_fee 11 = .ok (.ldc 161, 2) := by decide +kernel
theorem dX5_fee_13 : decode cX5_fee 13 = .ok (.if_icmp .ne 13, 3) := by decide +kernel
theorem dX5_fee_16 : decode cX5_fee 16 = .ok (.aload_n 0, 1) := by decide +kernel
theorem dX5_fee_17 : decode cX5_fee 17 = .ok (.getfield 21, 3) := by decide +kernel
theorem dX5_fee_20 : decode cX5_fee 20 = .ok (.getfield 176, 3) := by decide +kernel
theorem dX5_fee_23 : decode cX5_fee 23 = .ok (.goto 27, 3) := by decide +kernel
theorem dX5_fee_26 : decode cX5_fee 26 = .ok (.aload_n 0, 1) := by decide +kernel
theorem dX5_fee_27 : decode cX5_fee 27 = .ok (.getfield 10, 3) := by decide +kernel
theorem dX5_fee_30 : decode cX5_fee 30 = .ok (.iload_n 1, 1) := by decide +kernel
theorem dX5_fee_31 : decode cX5_fee 31 = .ok (.aload_n 0, 1) := by decide +kernel
theorem dX5_fee_32 : decode cX5_fee 32 = .ok (.getfield 21, 3) := by decide +kernel
theorem dX5_fee_35 : decode cX5_fee 35 = .ok (.getfield 176, 3) := by decide +kernel
theorem dX5_fee_38 : decode cX5_fee 38 = .ok (.aload_n 0, 1) := by decide +kernel
theorem dX5_fee_39 : decode cX5_fee 39 = .ok (.getfield 21, 3) := by decide +kernel
theorem dX5_fee_42 : decode cX5_fee 42 = .ok (.getfield 226, 3) := by decide +kernel
theorem dX5_fee_45 : decode cX5_fee 45 = .ok (.iconst 0, 1) := by decide +kernel
theorem dX5_fee_46 : decode cX5_fee 46 = .ok (.iconst 0, 1) := by decide +kernel
theorem dX5_fee_47 : decode cX5_fee 47 = .ok (.invokevirtual 229, 3) := by decide +kernel
theorem dX5_fee_50 : decode cX5_fee 50 = .ok (.ireturn, 1) := by decide +kernel
theorem dX5_fine_0 : decode cX5_fine 0 = .ok (.aload_n 0, 1) := by decide +kernel
theorem dX5_fine_1 : decode cX5_fine 1 = .ok (.iload_n 1, 1) := by decide +kernel
theorem dX5_fine_2 : decode cX5_fine 2 = .ok (.invokevirtual 83, 3) := by decide +kernel
theorem dX5_fine_5 : decode cX5_fine 5 = .ok (.ifCond .ne 6, 3) := by decide +kernel
theorem dX5_fine_8 : decode cX5_fine 8 = .ok (.ldc 73, 2) := by decide +kernel
theorem dX5_fine_10 : decode cX5_fine 10 = .ok (.ireturn, 1) := by decide +kernel
theorem dX5_fine_11 : decode cX5_fine 11 = .ok (.aload_n 0, 1) := by decide +kernel
theorem dX5_fine_12 : decode cX5_fine 12 = .ok (.getfield 21, 3) := by decide +kernel
theorem dX5_fine_15 : decode cX5_fine 15 = .ok (.getfield 223, 3) := by decide +kernel
theorem dX5_fine_18 : decode cX5_fine 18 = .ok (.iconst 2, 1) := by decide +kernel
theorem dX5_fine_19 : decode cX5_fine 19 = .ok (.iaload, 1) := by decide +kernel
theorem dX5_fine_20 : decode cX5_fine 20 = .ok (.istore_n 2, 1) := by decide +kernel
theorem dX5_fine_21 : decode cX5_fine 21 = .ok (.iload_n 2, 1) := by decide +kernel
theorem dX5_fine_22 : decode cX5_fine 22 = .ok (.ldc 161, 2) := by decide +kernel
theorem dX5_fine_24 : decode cX5_fine 24 = .ok (.if_icmp .ne 15, 3) := by decide +kernel
theorem dX5_fine_27 : decode cX5_fine 27 = .ok (.aload_n 0, 1) := by decide +kernel
theorem dX5_fine_28 : decode cX5_fine 28 = .ok (.getfield 21, 3) := by decide +kernel
theorem dX5_fine_31 : decode cX5_fine 31 = .ok (.getfield 89, 3) := by decide +kernel
theorem dX5_fine_34 : decode cX5_fine 34 = .ok (.iload_n 1, 1) := by decide +kernel
theorem dX5_fine_35 : decode cX5_fine 35 = .ok (.iaload, 1) := by decide +kernel
theorem dX5_fine_36 : decode cX5_fine 36 = .ok (.goto 31, 3) := by decide +kernel
theorem dX5_fine_39 : decode cX5_fine 39 = .ok (.aload_n 0, 1) := by decide +kernel
theorem dX5_fine_40 : decode cX5_fine 40 = .ok (.getfield 10, 3) := by decide +kernel
theorem dX5_fine_43 : decode cX5_fine 43 = .ok (.iload_n 2, 1) := by decide +kernel
theorem dX5_fine_44 : decode cX5_fine 44 = .ok (.aload_n 0, 1) := by decide +kernel
theorem dX5_fine_45 : decode cX5_fine 45 = .ok (.getfield 21, 3) := by decide +kernel
theorem dX5_fine_48 : decode cX5_fine 48 = .ok (.getfield 89, 3) := by decide +kernel
theorem dX5_fine_51 : decode cX5_fine 51 = .ok (.iload_n 1, 1) := by decide +kernel
theorem dX5_fine_52 : decode cX5_fine 52 = .ok (.iaload, 1) := by decide +kernel
theorem dX5_fine_53 : decode cX5_fine 53 = .ok (.aload_n 0, 1) := by decide +kernel
theorem dX5_fine_54 : decode cX5_fine 54 = .ok (.getfield 21, 3) := by decide +kernel
theorem dX5_fine_57 : decode cX5_fine 57 = .ok (.getfield 92, 3) := by decide +kernel
theorem dX5_fine_60 : decode cX5_fine 60 = .ok (.iload_n 1, 1) := by decide +kernel
theorem dX5_fine_61 : decode cX5_fine 61 = .ok (.iaload, 1) := by decide +kernel
theorem dX5_fine_62 : decode cX5_fine 62 = .ok (.iconst 0, 1) := by decide +kernel
theorem dX5_fine_63 : decode cX5_fine 63 = .ok (.iconst 0, 1) := by decide +kernel
theorem dX5_fine_64 : decode cX5_fine 64 = .ok (.invokevirtual 229, 3) := by decide +kernel
theorem dX5_fine_67 : decode cX5_fine 67 = .ok (.ireturn, 1) := by decide +kernel
theorem dX5_feed_0 : decode cX5_feed 0 = .ok (.aload_n 0, 1) := by decide +kernel
theorem dX5_feed_1 : decode cX5_feed 1 = .ok (.getfield 233, 3) := by decide +kernel
theorem dX5_feed_4 : decode cX5_feed 4 = .ok (.bipush 84, 2) := by decide +kernel
theorem dX5_feed_6 : decode cX5_feed 6 = .ok (.if_icmp .le 6, 3) := by decide +kernel
theorem dX5_feed_9 : decode cX5_feed 9 = .ok (.ldc 78, 2) := by decide +kernel
theorem dX5_feed_11 : decode cX5_feed 11 = .ok (.ireturn, 1) := by decide +kernel
theorem dX5_feed_12 : decode cX5_feed 12 = .ok (.aload_n 0, 1) := by decide +kernel
theorem dX5_feed_13 : decode cX5_feed 13 = .ok (.iload_n 1, 1) := by decide +kernel
theorem dX5_feed_14 : decode cX5_feed 14 = .ok (.invokevirtual 236, 3) := by decide +kernel
theorem dX5_feed_17 : decode cX5_feed 17 = .ok (.aload_n 0, 1) := by decide +kernel
theorem dX5_feed_18 : decode cX5_feed 18 = .ok (.iload_n 2, 1) := by decide +kernel
theorem dX5_feed_19 : decode cX5_feed 19 = .ok (.invokevirtual 236, 3) := by decide +kernel
theorem dX5_feed_22 : decode cX5_feed 22 = .ok (.aload_n 0, 1) := by decide +kernel
theorem dX5_feed_23 : decode cX5_feed 23 = .ok (.iload_n 3, 1) := by decide +kernel
theorem dX5_feed_24 : decode cX5_feed 24 = .ok (.invokevirtual 236, 3) := by decide +kernel
theorem dX5_feed_27 : decode cX5_feed 27 = .ok (.aload_n 0, 1) := by decide +kernel
theorem dX5_feed_28 : decode cX5_feed 28 = .ok (.getfield 233, 3) := by decide +kernel
theorem dX5_feed_31 : decode cX5_feed 31 = .ok (.ireturn, 1) := by decide +kernel
theorem dX5_trim_0 : decode cX5_trim 0 = .ok (.iload_n 1, 1) := by decide +kernel
theorem dX5_trim_1 : decode cX5_trim 1 = .ok (.iconst 0, 1) := by decide +kernel
theorem dX5_trim_2 : decode cX5_trim 2 = .ok (.aload_n 0, 1) := by decide +kernel
theorem dX5_trim_3 : decode cX5_trim 3 = .ok (.getfield 233, 3) := by decide +kernel
theorem dX5_trim_6 : decode cX5_trim 6 = .ok (.invokestatic 66, 3) := by decide +kernel
theorem dX5_trim_9 : decode cX5_trim 9 = .ok (.ifCond .ne 6, 3) := by decide +kernel
theorem dX5_trim_12 : decode cX5_trim 12 = .ok (.ldc 73, 2) := by decide +kernel
theorem dX5_trim_14 : decode cX5_trim 14 = .ok (.ireturn, 1) := by decide +kernel
theorem dX5_trim_15 : decode cX5_trim 15 = .ok (.aload_n 0, 1) := by decide +kernel
theorem dX5_trim_16 : decode cX5_trim 16 = .ok (.iload_n 1, 1) := by decide +kernel
theorem dX5_trim_17 : decode cX5_trim 17 = .ok (.putfield 233, 3) := by decide +kernel
theorem dX5_trim_20 : decode cX5_trim 20 = .ok (.iload_n 1, 1) := by decide +kernel
theorem dX5_trim_21 : decode cX5_trim 21 = .ok (.ireturn, 1) := by decide +kernel
theorem dX5_text_0 : decode cX5_text 0 = .ok (.aload_n 0, 1) := by decide +kernel
theorem dX5_text_1 : decode cX5_text 1 = .ok (.getfield 233, 3) := by decide +kernel
theorem dX5_text_4 : decode cX5_text 4 = .ok (.istore_n 1, 1) := by decide +kernel
theorem dX5_text_5 : decode cX5_text 5 = .ok (.aload_n 0, 1) := by decide +kernel
theorem dX5_text_6 : decode cX5_text 6 = .ok (.iconst 0, 1) := by decide +kernel
theorem dX5_text_7 : decode cX5_text 7 = .ok (.putfield 233, 3) := by decide +kernel
theorem dX5_text_10 : decode cX5_text 10 = .ok (.aload_n 0, 1) := by decide +kernel
theorem dX5_text_11 : decode cX5_text 11 = .ok (.getfield 34, 3) := by decide +kernel
theorem dX5_text_14 : decode cX5_text 14 = .ok (.aload_n 0, 1) := by decide +kernel
theorem dX5_text_15 : decode cX5_text 15 = .ok (.getfield 38, 3) := by decide +kernel
theorem dX5_text_18 : decode cX5_text 18 = .ok (.iload_n 1, 1) := by decide +kernel
theorem dX5_text_19 : decode cX5_text 19 = .ok (.invokevirtual 239, 3) := by decide +kernel
theorem dX5_text_22 : decode cX5_text 22 = .ok (.istore_n 2, 1) := by decide +kernel
theorem dX5_text_23 : decode cX5_text 23 = .ok (.iload_n 2, 1) := by decide +kernel
theorem dX5_text_24 : decode cX5_text 24 = .ok (.ifCond .lt 8, 3) := by decide +kernel
theorem dX5_text_27 : decode cX5_text 27 = .ok (.bipush (-100), 2) := by decide +kernel
theorem dX5_text_29 : decode cX5_text 29 = .ok (.iload_n 2, 1) := by decide +kernel
theorem dX5_text_30 : decode cX5_text 30 = .ok (.isub, 1) := by decide +kernel
theorem dX5_text_31 : decode cX5_text 31 = .ok (.ireturn, 1) := by decide +kernel
theorem dX5_text_32 : decode cX5_text 32 = .ok (.aload_n 0, 1) := by decide +kernel
theorem dX5_text_33 : decode cX5_text 33 = .ok (.getfield 21, 3) := by decide +kernel
theorem dX5_text_36 : decode cX5_text 36 = .ok (.getfield 243, 3) := by decide +kernel
theorem dX5_text_39 : decode cX5_text 39 = .ok (.bipush 14, 2) := by decide +kernel
theorem dX5_text_41 : decode cX5_text 41 = .ok (.if_icmp .lt 6, 3) := by decide +kernel
theorem dX5_text_44 : decode cX5_text 44 = .ok (.ldc 78, 2) := by decide +kernel
theorem dX5_text_46 : decode cX5_text 46 = .ok (.ireturn, 1) := by decide +kernel
theorem dX5_text_47 : decode cX5_text 47 = .ok (.aload_n 0, 1) := by decide +kernel
theorem dX5_text_48 : decode cX5_text 48 = .ok (.getfield 21, 3) := by decide +kernel
theorem dX5_text_51 : decode cX5_text 51 = .ok (.getfield 243, 3) := by decide +kernel
theorem dX5_text_54 : decode cX5_text 54 = .ok (.istore_n 3, 1) := by decide +kernel
theorem dX5_text_55 : decode cX5_text 55 = .ok (.aload_n 0, 1) := by decide +kernel
theorem dX5_text_56 : decode cX5_text 56 = .ok (.getfield 10, 3) := by decide +kernel
theorem dX5_text_59 : decode cX5_text 59 = .ok (.iload_n 3, 1) := by decide +kernel
theorem dX5_text_60 : decode cX5_text 60 = .ok (.aload_n 0, 1) := by decide +kernel
theorem dX5_text_61 : decode cX5_text 61 = .ok (.getfield 34, 3) := by decide +kernel
theorem dX5_text_64 : decode cX5_text 64 = .ok (.invokevirtual 246, 3) := by decide +kernel
theorem dX5_text_67 : decode cX5_text 67 = .ok (.aload_n 0, 1) := by decide +kernel
theorem dX5_text_68 : decode cX5_text 68 = .ok (.getfield 21, 3) := by decide +kernel
theorem dX5_text_71 : decode cX5_text 71 = .ok (.getfield 223, 3) := by decide +kernel
theorem dX5_text_74 : decode cX5_text 74 = .ok (.aload_n 0, 1) := by decide +kernel
theorem dX5_text_75 : decode cX5_text 75 = .ok (.getfield 34, 3) := by decide +kernel
theorem dX5_text_78 : decode cX5_text 78 = .ok (.getfield 250, 3) := by decide +kernel
theorem dX5_text_81 : decode cX5_text 81 = .ok (.iload_n 3, 1) := by decide +kernel
theorem dX5_text_82 : decode cX5_text 82 = .ok (.iastore, 1) := by decide +kernel
theorem dX5_text_83 : decode cX5_text 83 = .ok (.aload_n 0, 1) := by decide +kernel
theorem dX5_text_84 : decode cX5_text 84 = .ok (.getfield 21, 3) := by decide +kernel
theorem dX5_text_87 : decode cX5_text 87 = .ok (.iload_n 3, 1) := by decide +kernel
theorem dX5_text_88 : decode cX5_text 88 = .ok (.iconst 1, 1) := by decide +kernel
theorem dX5_text_89 : decode cX5_text 89 = .ok (.iadd, 1) := by decide +kernel
theorem dX5_text_90 : decode cX5_text 90 = .ok (.putfield 243, 3) := by decide +kernel
theorem dX5_text_93 : decode cX5_text 93 = .ok (.iload_n 3, 1) := by decide +kernel
theorem dX5_text_94 : decode cX5_text 94 = .ok (.ireturn, 1) := by decide +kernel
theorem dX5_textTold_0 : decode cX5_textTold 0 = .ok (.iload_n 1, 1) := by decide +kernel
theorem dX5_textTold_1 : decode cX5_textTold 1 = .ok (.iconst 0, 1) := by decide +kernel
theorem dX5_textTold_2 : decode cX5_textTold 2 = .ok (.aload_n 0, 1) := by decide +kernel
theorem dX5_textTold_3 : decode cX5_textTold 3 = .ok (.getfield 21, 3) := by decide +kernel
theorem dX5_textTold_6 : decode cX5_textTold 6 = .ok (.getfield 243, 3) := by decide +kernel
theorem dX5_textTold_9 : decode cX5_textTold 9 = .ok (.iconst 1, 1) := by decide +kernel
theorem dX5_textTold_10 : decode cX5_textTold 10 = .ok (.isub, 1) := by decide +kernel
theorem dX5_textTold_11 : decode cX5_textTold 11 = .ok (.invokestatic 66, 3) := by decide +kernel
theorem dX5_textTold_14 : decode cX5_textTold 14 = .ok (.ifCond .ne 6, 3) := by decide +kernel
theorem dX5_textTold_17 : decode cX5_textTold 17 = .ok (.ldc 73, 2) := by decide +kernel
theorem dX5_textTold_19 : decode cX5_textTold 19 = .ok (.ireturn, 1) := by decide +kernel
theorem dX5_textTold_20 : decode cX5_textTold 20 = .ok (.iload_n 2, 1) := by decide +kernel
theorem dX5_textTold_21 : decode cX5_textTold 21 = .ok (.lookupswitch 47 #[(0, 27), (1, 37)], 27) := by decide +kernel
theorem dX5_textTold_48 : decode cX5_textTold 48 = .ok (.aload_n 0, 1) := by decide +kernel
theorem dX5_textTold_49 : decode cX5_textTold 49 = .ok (.getfield 10, 3) := by decide +kernel
theorem dX5_textTold_52 : decode cX5_textTold 52 = .ok (.getfield 253, 3) := by decide +kernel
theorem dX5_textTold_55 : decode cX5_textTold 55 = .ok (.iload_n 1, 1) := by decide +kernel
theorem dX5_textTold_56 : decode cX5_textTold 56 = .ok (.iaload, 1) := by decide +kernel
theorem dX5_textTold_57 : decode cX5_textTold 57 = .ok (.ireturn, 1) := by decide +kernel
theorem dX5_textTold_58 : decode cX5_textTold 58 = .ok (.aload_n 0, 1) := by decide +kernel
theorem dX5_textTold_59 : decode cX5_textTold 59 = .ok (.getfield 10, 3) := by decide +kernel
theorem dX5_textTold_62 : decode cX5_textTold 62 = .ok (.getfield 255, 3) := by decide +kernel
theorem dX5_textTold_65 : decode cX5_textTold 65 = .ok (.iload_n 1, 1) := by decide +kernel
theorem dX5_textTold_66 : decode cX5_textTold 66 = .ok (.iaload, 1) := by decide +kernel
theorem dX5_textTold_67 : decode cX5_textTold 67 = .ok (.ireturn, 1) := by decide +kernel
theorem dX5_textTold_68 : decode cX5_textTold 68 = .ok (.ldc 73, 2) := by decide +kernel
theorem dX5_textTold_70 : decode cX5_textTold 70 = .ok (.ireturn, 1) := by decide +kernel
theorem dX5_why_0 : decode cX5_why 0 = .ok (.iload_n 1, 1) := by decide +kernel
theorem dX5_why_1 : decode cX5_why 1 = .ok (.iconst 0, 1) := by decide +kernel
theorem dX5_why_2 : decode cX5_why 2 = .ok (.iconst 2, 1) := by decide +kernel
theorem dX5_why_3 : decode cX5_why 3 = .ok (.invokestatic 66, 3) := by decide +kernel
theorem dX5_why_6 : decode cX5_why 6 = .ok (.ifCond .eq 15, 3) := by decide +kernel
theorem dX5_why_9 : decode cX5_why 9 = .ok (.aload_n 0, 1) := by decide +kernel
theorem dX5_why_10 : decode cX5_why 10 = .ok (.getfield 21, 3) := by decide +kernel
theorem dX5_why_13 : decode cX5_why 13 = .ok (.getfield 223, 3) := by decide +kernel
theorem dX5_why_16 : decode cX5_why 16 = .ok (.iload_n 1, 1) := by decide +kernel
theorem dX5_why_17 : decode cX5_why 17 = .ok (.iaload, 1) := by decide +kernel
theorem dX5_why_18 : decode cX5_why 18 = .ok (.goto 5, 3) := by decide +kernel
theorem dX5_why_21 : decode cX5_why 21 = .ok (.ldc 73, 2) := by decide +kernel
theorem dX5_why_23 : decode cX5_why 23 = .ok (.ireturn, 1) := by decide +kernel
theorem dX5_sheet_0 : decode cX5_sheet 0 = .ok (.iload_n 1, 1) := by decide +kernel
theorem dX5_sheet_1 : decode cX5_sheet 1 = .ok (.invokestatic 212, 3) := by decide +kernel
theorem dX5_sheet_4 : decode cX5_sheet 4 = .ok (.ifCond .eq 12, 3) := by decide +kernel
theorem dX5_sheet_7 : decode cX5_sheet 7 = .ok (.iload_n 2, 1) := by decide +kernel
theorem dX5_sheet_8 : decode cX5_sheet 8 = .ok (.iconst (-1), 1) := by decide +kernel
theorem dX5_sheet_9 : decode cX5_sheet 9 = .ok (.iconst 1, 1) := by decide +kernel
theorem dX5_sheet_10 : decode cX5_sheet 10 = .ok (.invokestatic 66, 3) := by decide +kernel
theorem dX5_sheet_13 : decode cX5_sheet 13 = .ok (.ifCond .ne 6, 3) := by decide +kernel
theorem dX5_sheet_16 : decode cX5_sheet 16 = .ok (.ldc 73, 2) := by decide +kernel
theorem dX5_sheet_18 : decode cX5_sheet 18 = .ok (.ireturn, 1) := by decide +kernel
theorem dX5_sheet_19 : decode cX5_sheet 19 = .ok (.iload_n 2, 1) := by decide +kernel
theorem dX5_sheet_20 : decode cX5_sheet 20 = .ok (.iconst (-1), 1) := by decide +kernel
theorem dX5_sheet_21 : decode cX5_sheet 21 = .ok (.if_icmp .ne 7, 3) := by decide +kernel
theorem dX5_sheet_24 : decode cX5_sheet 24 = .ok (.iconst 0, 1) := by decide +kernel
theorem dX5_sheet_25 : decode cX5_sheet 25 = .ok (.goto 4, 3) := by decide +kernel
theorem dX5_sheet_28 : decode cX5_sheet 28 = .ok (.iload_n 3, 1) := by decide +kernel
theorem dX5_sheet_29 : decode cX5_sheet 29 = .ok (.istore 4, 2) := by decide +kernel
theorem dX5_sheet_31 : decode cX5_sheet 31 = .ok (.iload 4, 2) := by decide +kernel
theorem dX5_sheet_33 : decode cX5_sheet 33 = .ok (.bipush 24, 2) := by decide +kernel
theorem dX5_sheet_35 : decode cX5_sheet 35 = .ok (.if_icmp .le 6, 3) := by decide +kernel
theorem dX5_sheet_38 : decode cX5_sheet 38 = .ok (.ldc 73, 2) := by decide +kernel
theorem dX5_sheet_40 : decode cX5_sheet 40 = .ok (.ireturn, 1) := by decide +kernel
theorem dX5_sheet_41 : decode cX5_sheet 41 = .ok (.iload 4, 2) := by decide +kernel
theorem dX5_sheet_43 : decode cX5_sheet 43 = .ok (.ifCond .ge 7, 3) := by decide +kernel
theorem dX5_sheet_46 : decode cX5_sheet 46 = .ok (.ldc_w 258, 3) := by decide +kernel
theorem dX5_sheet_49 : decode cX5_sheet 49 = .ok (.ireturn, 1) := by decide +kernel
theorem dX5_sheet_50 : decode cX5_sheet 50 = .ok (.aload_n 0, 1) := by decide +kernel
theorem dX5_sheet_51 : decode cX5_sheet 51 = .ok (.getfield 44, 3) := by decide +kernel
theorem dX5_sheet_54 : decode cX5_sheet 54 = .ok (.iload_n 1, 1) := by decide +kernel
theorem dX5_sheet_55 : decode cX5_sheet 55 = .ok (.aaload, 1) := by decide +kernel
theorem dX5_sheet_56 : decode cX5_sheet 56 = .ok (.iload_n 2, 1) := by decide +kernel
theorem dX5_sheet_57 : decode cX5_sheet 57 = .ok (.iload 4, 2) := by decide +kernel
theorem dX5_sheet_59 : decode cX5_sheet 59 = .ok (.invokevirtual 259, 3) := by decide +kernel
theorem dX5_sheet_62 : decode cX5_sheet 62 = .ok (.iload 4, 2) := by decide +kernel
theorem dX5_sheet_64 : decode cX5_sheet 64 = .ok (.ireturn, 1) := by decide +kernel
theorem dX5_mark_0 : decode cX5_mark 0 = .ok (.iload_n 1, 1) := by decide +kernel
theorem dX5_mark_1 : decode cX5_mark 1 = .ok (.invokestatic 212, 3) := by decide +kernel
theorem dX5_mark_4 : decode cX5_mark 4 = .ok (.ifCond .ne 6, 3) := by decide +kernel
theorem dX5_mark_7 : decode cX5_mark 7 = .ok (.ldc 73, 2) := by decide +kernel
theorem dX5_mark_9 : decode cX5_mark 9 = .ok (.ireturn, 1) := by decide +kernel
theorem dX5_mark_10 : decode cX5_mark 10 = .ok (.aload_n 0, 1) := by decide +kernel
theorem dX5_mark_11 : decode cX5_mark 11 = .ok (.iload_n 1, 1) := by decide +kernel
theorem dX5_mark_12 : decode cX5_mark 12 = .ok (.invokevirtual 215, 3) := by decide +kernel
theorem dX5_mark_15 : decode cX5_mark 15 = .ok (.ifCond .eq 6, 3) := by decide +kernel
theorem dX5_mark_18 : decode cX5_mark 18 = .ok (.ldc 218, 2) := by decide +kernel
theorem dX5_mark_20 : decode cX5_mark 20 = .ok (.ireturn, 1) := by decide +kernel
theorem dX5_mark_21 : decode cX5_mark 21 = .ok (.aload_n 0, 1) := by decide +kernel
theorem dX5_mark_22 : decode cX5_mark 22 = .ok (.getfield 44, 3) := by decide +kernel
theorem dX5_mark_25 : decode cX5_mark 25 = .ok (.iload_n 1, 1) := by decide +kernel
theorem dX5_mark_26 : decode cX5_mark 26 = .ok (.aaload, 1) := by decide +kernel
theorem dX5_mark_27 : decode cX5_mark 27 = .ok (.astore 4, 2) := by decide +kernel
theorem dX5_mark_29 : decode cX5_mark 29 = .ok (.iload_n 2, 1) := by decide +kernel
theorem dX5_mark_30 : decode cX5_mark 30 = .ok (.iconst 0, 1) := by decide +kernel
theorem dX5_mark_31 : decode cX5_mark 31 = .ok (.aload 4, 2) := by decide +kernel
theorem dX5_mark_33 : decode cX5_mark 33 = .ok (.getfield 263, 3) := by decide +kernel
theorem dX5_mark_36 : decode cX5_mark 36 = .ok (.iconst 1, 1) := by decide +kernel
theorem dX5_mark_37 : decode cX5_mark 37 = .ok (.isub, 1) := by decide +kernel
theorem dX5_mark_38 : decode cX5_mark 38 = .ok (.invokestatic 66, 3) := by decide +kernel
theorem dX5_mark_41 : decode cX5_mark 41 = .ok (.ifCond .ne 7, 3) := by decide +kernel
theorem dX5_mark_44 : decode cX5_mark 44 = .ok (.ldc_w 266, 3) := by decide +kernel
theorem dX5_mark_47 : decode cX5_mark 47 = .ok (.ireturn, 1) := by decide +kernel
theorem dX5_mark_48 : decode cX5_mark 48 = .ok (.aload 4, 2) := by decide +kernel
theorem dX5_mark_50 : decode cX5_mark 50 = .ok (.getfield 267, 3) := by decide +kernel
theorem dX5_mark_53 : decode cX5_mark 53 = .ok (.ifCond .ne 12, 3) := by decide +kernel
theorem dX5_mark_56 : decode cX5_mark 56 = .ok (.iload_n 3, 1) := by decide +kernel
theorem dX5_mark_57 : decode cX5_mark 57 = .ok (.ldc 161, 2) := by decide +kernel
theorem dX5_mark_59 : decode cX5_mark 59 = .ok (.if_icmp .ne 6, 3) := by decide +kernel
theorem dX5_mark_62 : decode cX5_mark 62 = .ok (.ldc 119, 2) := by decide +kernel
theorem dX5_mark_64 : decode cX5_mark 64 = .ok (.ireturn, 1) := by decide +kernel
theorem dX5_mark_65 : decode cX5_mark 65 = .ok (.aload 4, 2) := by decide +kernel
theorem dX5_mark_67 : decode cX5_mark 67 = .ok (.getfield 267, 3) := by decide +kernel
theorem dX5_mark_70 : decode cX5_mark 70 = .ok (.iconst 1, 1) := by decide +kernel
theorem dX5_mark_71 : decode cX5_mark 71 = .ok (.if_icmp .ne 24, 3) := by decide +kernel
theorem dX5_mark_74 : decode cX5_mark 74 = .ok (.iload_n 3, 1) := by decide +kernel
theorem dX5_mark_75 : decode cX5_mark 75 = .ok (.ldc 161, 2) := by decide +kernel
theorem dX5_mark_77 : decode cX5_mark 77 = .ok (.if_icmp .eq 18, 3) := by decide +kernel
theorem dX5_mark_80 : decode cX5_mark 80 = .ok (.iload_n 3, 1) := by decide +kernel
theorem dX5_mark_81 : decode cX5_mark 81 = .ok (.ldc_w 270, 3) := by decide +kernel
theorem dX5_mark_84 : decode cX5_mark 84 = .ok (.ldc 208, 2) := by decide +kernel
theorem dX5_mark_86 : decode cX5_mark 86 = .ok (.invokestatic 66, 3) := by decide +kernel
theorem dX5_mark_89 : decode cX5_mark 89 = .ok (.ifCond .ne 6, 3) := by decide +kernel
theorem dX5_mark_92 : decode cX5_mark 92 = .ok (.ldc 73, 2) := by decide +kernel
theorem dX5_mark_94 : decode cX5_mark 94 = .ok (.ireturn, 1) := by decide +kernel
theorem dX5_mark_95 : decode cX5_mark 95 = .ok (.aload 4, 2) := by decide +kernel
theorem dX5_mark_97 : decode cX5_mark 97 = .ok (.getfield 271, 3) := by decide +kernel
theorem dX5_mark_100 : decode cX5_mark 100 = .ok (.iload_n 2, 1) := by decide +kernel
theorem dX5_mark_101 : decode cX5_mark 101 = .ok (.aload 4, 2) := by decide +kernel
theorem dX5_mark_103 : decode cX5_mark 103 = .ok (.getfield 267, 3) := by decide +kernel
theorem dX5_mark_106 : decode cX5_mark 106 = .ok (.ifCond .ne 8, 3) := by decide +kernel
theorem dX5_mark_109 : decode cX5_mark 109 = .ok (.iload_n 3, 1) := by decide +kernel
theorem dX5_mark_110 : decode cX5_mark 110 = .ok (.i2s, 1) := by decide +kernel
theorem dX5_mark_111 : decode cX5_mark 111 = .ok (.goto 4, 3) := by decide +kernel
theorem dX5_mark_114 : decode cX5_mark 114 = .ok (.iload_n 3, 1) := by decide +kernel
theorem dX5_mark_115 : decode cX5_mark 115 = .ok (.iastore, 1) := by decide +kernel
theorem dX5_mark_116 : decode cX5_mark 116 = .ok (.iconst 1, 1) := by decide +kernel
theorem dX5_mark_117 : decode cX5_mark 117 = .ok (.ireturn, 1) := by decide +kernel
theorem dX5_pour_0 : decode cX5_pour 0 = .ok (.iload_n 1, 1) := by decide +kernel
theorem dX5_pour_1 : decode cX5_pour 1 = .ok (.invokestatic 212, 3) := by decide +kernel
theorem dX5_pour_4 : decode cX5_pour 4 = .ok (.ifCond .ne 6, 3) := by decide +kernel
theorem dX5_pour_7 : decode cX5_pour 7 = .ok (.ldc 73, 2) := by decide +kernel
theorem dX5_pour_9 : decode cX5_pour 9 = .ok (.ireturn, 1) := by decide +kernel
theorem dX5_pour_10 : decode cX5_pour 10 = .ok (.aload_n 0, 1) := by decide +kernel
theorem dX5_pour_11 : decode cX5_pour 11 = .ok (.iload_n 1, 1) := by decide +kernel
theorem dX5_pour_12 : decode cX5_pour 12 = .ok (.invokevirtual 215, 3) := by decide +kernel
theorem dX5_pour_15 : decode cX5_pour 15 = .ok (.ifCond .eq 6, 3) := by decide +kernel
theorem dX5_pour_18 : decode cX5_pour 18 = .ok (.ldc 218, 2) := by decide +kernel
theorem dX5_pour_20 : decode cX5_pour 20 = .ok (.ireturn, 1) := by decide +kernel
theorem dX5_pour_21 : decode cX5_pour 21 = .ok (.aload_n 0, 1) := by decide +kernel
theorem dX5_pour_22 : decode cX5_pour 22 = .ok (.getfield 44, 3) := by decide +kernel
theorem dX5_pour_25 : decode cX5_pour 25 = .ok (.iload_n 1, 1) := by decide +kernel
theorem dX5_pour_26 : decode cX5_pour 26 = .ok (.aaload, 1) := by decide +kernel
theorem dX5_pour_27 : decode cX5_pour 27 = .ok (.astore_n 2, 1) := by decide +kernel
theorem dX5_pour_28 : decode cX5_pour 28 = .ok (.iconst 0, 1) := by decide +kernel
theorem dX5_pour_29 : decode cX5_pour 29 = .ok (.istore_n 3, 1) := by decide +kernel
theorem dX5_pour_30 : decode cX5_pour 30 = .ok (.iconst 0, 1) := by decide +kernel
theorem dX5_pour_31 : decode cX5_pour 31 = .ok (.istore 4, 2) := by decide +kernel
theorem dX5_pour_33 : decode cX5_pour 33 = .ok (.iload 4, 2) := by decide +kernel
theorem dX5_pour_35 : decode cX5_pour 35 = .ok (.aload_n 0, 1) := by decide +kernel
theorem dX5_pour_36 : decode cX5_pour 36 = .ok (.getfield 21, 3) := by decide +kernel
theorem dX5_pour_39 : decode cX5_pour 39 = .ok (.getfield 74, 3) := by decide +kernel
theorem dX5_pour_42 : decode cX5_pour 42 = .ok (.if_icmp .ge 92, 3) := by decide +kernel
theorem dX5_pour_45 : decode cX5_pour 45 = .ok (.iload 4, 2) := by decide +kernel
theorem dX5_pour_47 : decode cX5_pour 47 = .ok (.aload_n 2, 1) := by decide +kernel
theorem dX5_pour_48 : decode cX5_pour 48 = .ok (.getfield 263, 3) := by decide +kernel
theorem dX5_pour_51 : decode cX5_pour 51 = .ok (.if_icmp .ge 83, 3) := by decide +kernel
theorem dX5_pour_54 : decode cX5_pour 54 = .ok (.aload_n 2, 1) := by decide +kernel
theorem dX5_pour_55 : decode cX5_pour 55 = .ok (.getfield 271, 3) := by decide +kernel
theorem dX5_pour_58 : decode cX5_pour 58 = .ok (.iload 4, 2) := by decide +kernel
theorem dX5_pour_60 : decode cX5_pour 60 = .ok (.iaload, 1) := by decide +kernel
theorem dX5_pour_61 : decode cX5_pour 61 = .ok (.ldc 161, 2) := by decide +kernel
theorem dX5_pour_63 : decode cX5_pour 63 = .ok (.if_icmp .ne 16, 3) := by decide +kernel
theorem dX5_pour_66 : decode cX5_pour 66 = .ok (.aload_n 0, 1) := by decide +kernel
theorem dX5_pour_67 : decode cX5_pour 67 = .ok (.getfield 21, 3) := by decide +kernel
theorem dX5_pour_70 : decode cX5_pour 70 = .ok (.getfield 89, 3) := by decide +kernel
theorem dX5_pour_73 : decode cX5_pour 73 = .ok (.iload 4, 2) := by decide +kernel
theorem dX5_pour_75 : decode cX5_pour 75 = .ok (.iaload, 1) := by decide +kernel
theorem dX5_pour_76 : decode cX5_pour 76 = .ok (.goto 15, 3) := by decide +kernel
theorem dX5_pour_79 : decode cX5_pour 79 = .ok (.aload_n 2, 1) := by decide +kernel
theorem dX5_pour_80 : decode cX5_pour 80 = .ok (.getfield 271, 3) := by decide +kernel
theorem dX5_pour_83 : decode cX5_pour 83 = .ok (.iload 4, 2) := by decide +kernel
theorem dX5_pour_85 : decode cX5_pour 85 = .ok (.iaload, 1) := by decide +kernel
theorem dX5_pour_86 : decode cX5_pour 86 = .ok (.bipush 99, 2) := by decide +kernel
theorem dX5_pour_88 : decode cX5_pour 88 = .ok (.invokestatic 274, 3) := by decide +kernel
theorem dX5_pour_91 : decode cX5_pour 91 = .ok (.istore 5, 2) := by decide +kernel
theorem dX5_pour_93 : decode cX5_pour 93 = .ok (.iload_n 3, 1) := by decide +kernel
theorem dX5_pour_94 : decode cX5_pour 94 = .ok (.iload 5, 2) := by decide +kernel
theorem dX5_pour_96 : decode cX5_pour 96 = .ok (.aload_n 0, 1) := by decide +kernel
theorem dX5_pour_97 : decode cX5_pour 97 = .ok (.getfield 21, 3) := by decide +kernel
theorem dX5_pour_100 : decode cX5_pour 100 = .ok (.getfield 89, 3) := by decide +kernel
theorem dX5_pour_103 : decode cX5_pour 103 = .ok (.iload 4, 2) := by decide +kernel
theorem dX5_pour_105 : decode cX5_pour 105 = .ok (.iaload, 1) := by decide +kernel
theorem dX5_pour_106 : decode cX5_pour 106 = .ok (.if_icmp .ne 7, 3) := by decide +kernel
theorem dX5_pour_109 : decode cX5_pour 109 = .ok (.iconst 0, 1) := by decide +kernel
theorem dX5_pour_110 : decode cX5_pour 110 = .ok (.goto 4, 3) := by decide +kernel
theorem dX5_pour_113 : decode cX5_pour 113 = .ok (.iconst 1, 1) := by decide +kernel
theorem dX5_pour_114 : decode cX5_pour 114 = .ok (.iadd, 1) := by decide +kernel
theorem dX5_pour_115 : decode cX5_pour 115 = .ok (.istore_n 3, 1) := by decide +kernel
theorem dX5_pour_116 : decode cX5_pour 116 = .ok (.aload_n 0, 1) := by decide +kernel
theorem dX5_pour_117 : decode cX5_pour 117 = .ok (.getfield 21, 3) := by decide +kernel
theorem dX5_pour_120 : decode cX5_pour 120 = .ok (.getfield 89, 3) := by decide +kernel
theorem dX5_pour_123 : decode cX5_pour 123 = .ok (.iload 4, 2) := by decide +kernel
theorem dX5_pour_125 : decode cX5_pour 125 = .ok (.iload 5, 2) := by decide +kernel
theorem dX5_pour_127 : decode cX5_pour 127 = .ok (.iastore, 1) := by decide +kernel
theorem dX5_pour_128 : decode cX5_pour 128 = .ok (.iinc 4 1, 3) := by decide +kernel
theorem dX5_pour_131 : decode cX5_pour 131 = .ok (.goto (-98), 3) := by decide +kernel
theorem dX5_pour_134 : decode cX5_pour 134 = .ok (.iload_n 3, 1) := by decide +kernel
theorem dX5_pour_135 : decode cX5_pour 135 = .ok (.ireturn, 1) := by decide +kernel
theorem dX5_reads_0 : decode cX5_reads 0 = .ok (.iload_n 1, 1) := by decide +kernel
theorem dX5_reads_1 : decode cX5_reads 1 = .ok (.invokestatic 212, 3) := by decide +kernel
theorem dX5_reads_4 : decode cX5_reads 4 = .ok (.ifCond .ne 6, 3) := by decide +kernel
theorem dX5_reads_7 : decode cX5_reads 7 = .ok (.ldc 73, 2) := by decide +kernel
theorem dX5_reads_9 : decode cX5_reads 9 = .ok (.ireturn, 1) := by decide +kernel
theorem dX5_reads_10 : decode cX5_reads 10 = .ok (.aload_n 0, 1) := by decide +kernel
theorem dX5_reads_11 : decode cX5_reads 11 = .ok (.iload_n 1, 1) := by decide +kernel
theorem dX5_reads_12 : decode cX5_reads 12 = .ok (.invokevirtual 215, 3) := by decide +kernel
theorem dX5_reads_15 : decode cX5_reads 15 = .ok (.ifCond .eq 6, 3) := by decide +kernel
theorem dX5_reads_18 : decode cX5_reads 18 = .ok (.ldc 218, 2) := by decide +kernel
theorem dX5_reads_20 : decode cX5_reads 20 = .ok (.ireturn, 1) := by decide +kernel
theorem dX5_reads_21 : decode cX5_reads 21 = .ok (.aload_n 0, 1) := by decide +kernel
theorem dX5_reads_22 : decode cX5_reads 22 = .ok (.getfield 44, 3) := by decide +kernel
theorem dX5_reads_25 : decode cX5_reads 25 = .ok (.iload_n 1, 1) := by decide +kernel
theorem dX5_reads_26 : decode cX5_reads 26 = .ok (.aaload, 1) := by decide +kernel
theorem dX5_reads_27 : decode cX5_reads 27 = .ok (.astore_n 2, 1) := by decide +kernel
theorem dX5_reads_28 : decode cX5_reads 28 = .ok (.iconst 0, 1) := by decide +kernel
theorem dX5_reads_29 : decode cX5_reads 29 = .ok (.istore_n 3, 1) := by decide +kernel
theorem dX5_reads_30 : decode cX5_reads 30 = .ok (.iload_n 3, 1) := by decide +kernel
theorem dX5_reads_31 : decode cX5_reads 31 = .ok (.aload_n 2, 1) := by decide +kernel
theorem dX5_reads_32 : decode cX5_reads 32 = .ok (.getfield 263, 3) := by decide +kernel
theorem dX5_reads_35 : decode cX5_reads 35 = .ok (.if_icmp .ge 51, 3) := by decide +kernel
theorem dX5_reads_38 : decode cX5_reads 38 = .ok (.aload_n 2, 1) := by decide +kernel
theorem dX5_reads_39 : decode cX5_reads 39 = .ok (.getfield 271, 3) := by decide +kernel
theorem dX5_reads_42 : decode cX5_reads 42 = .ok (.iload_n 3, 1) := by decide +kernel
theorem dX5_reads_43 : decode cX5_reads 43 = .ok (.iaload, 1) := by decide +kernel
theorem dX5_reads_44 : decode cX5_reads 44 = .ok (.ldc 161, 2) := by decide +kernel
theorem dX5_reads_46 : decode cX5_reads 46 = .ok (.if_icmp .eq 34, 3) := by decide +kernel
theorem dX5_reads_49 : decode cX5_reads 49 = .ok (.iload_n 3, 1) := by decide +kernel
theorem dX5_reads_50 : decode cX5_reads 50 = .ok (.aload_n 0, 1) := by decide +kernel
theorem dX5_reads_51 : decode cX5_reads 51 = .ok (.getfield 21, 3) := by decide +kernel
theorem dX5_reads_54 : decode cX5_reads 54 = .ok (.getfield 74, 3) := by decide +kernel
theorem dX5_reads_57 : decode cX5_reads 57 = .ok (.if_icmp .ge 21, 3) := by decide +kernel
theorem dX5_reads_60 : decode cX5_reads 60 = .ok (.aload_n 2, 1) := by decide +kernel
theorem dX5_reads_61 : decode cX5_reads 61 = .ok (.getfield 271, 3) := by decide +kernel
theorem dX5_reads_64 : decode cX5_reads 64 = .ok (.iload_n 3, 1) := by decide +kernel
theorem dX5_reads_65 : decode cX5_reads 65 = .ok (.iaload, 1) := by decide +kernel
theorem dX5_reads_66 : decode cX5_reads 66 = .ok (.aload_n 0, 1) := by decide +kernel
theorem dX5_reads_67 : decode cX5_reads 67 = .ok (.getfield 21, 3) := by decide +kernel
theorem dX5_reads_70 : decode cX5_reads 70 = .ok (.getfield 95, 3) := by decide +kernel
theorem dX5_reads_73 : decode cX5_reads 73 = .ok (.iload_n 3, 1) := by decide +kernel
theorem dX5_reads_74 : decode cX5_reads 74 = .ok (.iaload, 1) := by decide +kernel
theorem dX5_reads_75 : decode cX5_reads 75 = .ok (.if_icmp .eq 5, 3) := by decide +kernel
theorem dX5_reads_78 : decode cX5_reads 78 = .ok (.iload_n 3, 1) := by decide +kernel
theorem dX5_reads_79 : decode cX5_reads 79 = .ok (.ireturn, 1) := by decide +kernel
theorem dX5_reads_80 : decode cX5_reads 80 = .ok (.iinc 3 1, 3) := by decide +kernel
theorem dX5_reads_83 : decode cX5_reads 83 = .ok (.goto (-53), 3) := by decide +kernel
theorem dX5_reads_86 : decode cX5_reads 86 = .ok (.ldc 161, 2) := by decide +kernel
theorem dX5_reads_88 : decode cX5_reads 88 = .ok (.ireturn, 1) := by decide +kernel
theorem dX5_copy_0 : decode cX5_copy 0 = .ok (.iload_n 1, 1) := by decide +kernel
theorem dX5_copy_1 : decode cX5_copy 1 = .ok (.invokestatic 212, 3) := by decide +kernel
theorem dX5_copy_4 : decode cX5_copy 4 = .ok (.ifCond .eq 10, 3) := by decide +kernel
theorem dX5_copy_7 : decode cX5_copy 7 = .ok (.iload_n 3, 1) := by decide +kernel
theorem dX5_copy_8 : decode cX5_copy 8 = .ok (.invokestatic 212, 3) := by decide +kernel
theorem dX5_copy_11 : decode cX5_copy 11 = .ok (.ifCond .ne 6, 3) := by decide +kernel
theorem dX5_copy_14 : decode cX5_copy 14 = .ok (.ldc 73, 2) := by decide +kernel
theorem dX5_copy_16 : decode cX5_copy 16 = .ok (.ireturn, 1) := by decide +kernel
theorem dX5_copy_17 : decode cX5_copy 17 = .ok (.aload_n 0, 1) := by decide +kernel
theorem dX5_copy_18 : decode cX5_copy 18 = .ok (.iload_n 1, 1) := by decide +kernel
theorem dX5_copy_19 : decode cX5_copy 19 = .ok (.invokevirtual 215, 3) := by decide +kernel
theorem dX5_copy_22 : decode cX5_copy 22 = .ok (.ifCond .ne 11, 3) := by decide +kernel
theorem dX5_copy_25 : decode cX5_copy 25 = .ok (.aload_n 0, 1) := by decide +kernel
theorem dX5_copy_26 : decode cX5_copy 26 = .ok (.iload_n 3, 1) := by decide +kernel
theorem dX5_copy_27 : decode cX5_copy 27 = .ok (.invokevirtual 215, 3) := by decide +kernel
theorem dX5_copy_30 : decode cX5_copy 30 = .ok (.ifCond .eq 6, 3) := by decide +kernel
theorem dX5_copy_33 : decode cX5_copy 33 = .ok (.ldc 218, 2) := by decide +kernel
theorem dX5_copy_35 : decode cX5_copy 35 = .ok (.ireturn, 1) := by decide +kernel
theorem dX5_copy_36 : decode cX5_copy 36 = .ok (.aload_n 0, 1) := by decide +kernel
theorem dX5_copy_37 : decode cX5_copy 37 = .ok (.getfield 44, 3) := by decide +kernel
theorem dX5_copy_40 : decode cX5_copy 40 = .ok (.iload_n 1, 1) := by decide +kernel
theorem dX5_copy_41 : decode cX5_copy 41 = .ok (.aaload, 1) := by decide +kernel
theorem dX5_copy_42 : decode cX5_copy 42 = .ok (.astore 6, 2) := by decide +kernel
theorem dX5_copy_44 : decode cX5_copy 44 = .ok (.aload_n 0, 1) := by decide +kernel
theorem dX5_copy_45 : decode cX5_copy 45 = .ok (.getfield 44, 3) := by decide +kernel
theorem dX5_copy_48 : decode cX5_copy 48 = .ok (.iload_n 3, 1) := by decide +kernel
theorem dX5_copy_49 : decode cX5_copy 49 = .ok (.aaload, 1) := by decide +kernel
theorem dX5_copy_50 : decode cX5_copy 50 = .ok (.astore 7, 2) := by decide +kernel
theorem dX5_copy_52 : decode cX5_copy 52 = .ok (.aload 6, 2) := by decide +kernel
theorem dX5_copy_54 : decode cX5_copy 54 = .ok (.getfield 267, 3) := by decide +kernel
theorem dX5_copy_57 : decode cX5_copy 57 = .ok (.aload 7, 2) := by decide +kernel
theorem dX5_copy_59 : decode cX5_copy 59 = .ok (.getfield 267, 3) := by decide +kernel
theorem dX5_copy_62 : decode cX5_copy 62 = .ok (.if_icmp .eq 6, 3) := by decide +kernel
theorem dX5_copy_65 : decode cX5_copy 65 = .ok (.ldc 119, 2) := by decide +kernel
theorem dX5_copy_67 : decode cX5_copy 67 = .ok (.ireturn, 1) := by decide +kernel
theorem dX5_copy_68 : decode cX5_copy 68 = .ok (.aload 6, 2) := by decide +kernel
theorem dX5_copy_70 : decode cX5_copy 70 = .ok (.iload_n 2, 1) := by decide +kernel
theorem dX5_copy_71 : decode cX5_copy 71 = .ok (.iload 5, 2) := by decide +kernel
theorem dX5_copy_73 : decode cX5_copy 73 = .ok (.invokevirtual 277, 3) := by decide +kernel
theorem dX5_copy_76 : decode cX5_copy 76 = .ok (.ifCond .eq 15, 3) := by decide +kernel
theorem dX5_copy_79 : decode cX5_copy 79 = .ok (.aload 7, 2) := by decide +kernel
theorem dX5_copy_81 : decode cX5_copy 81 = .ok (.iload 4, 2) := by decide +kernel
theorem dX5_copy_83 : decode cX5_copy 83 = .ok (.iload 5, 2) := by decide +kernel
theorem dX5_copy_85 : decode cX5_copy 85 = .ok (.invokevirtual 277, 3) := by decide +kernel
theorem dX5_copy_88 : decode cX5_copy 88 = .ok (.ifCond .ne 7, 3) := by decide +kernel
theorem dX5_copy_91 : decode cX5_copy 91 = .ok (.ldc_w 266, 3) := by decide +kernel
theorem dX5_copy_94 : decode cX5_copy 94 = .ok (.ireturn, 1) := by decide +kernel
theorem dX5_copy_95 : decode cX5_copy 95 = .ok (.aload 6, 2) := by decide +kernel
theorem dX5_copy_97 : decode cX5_copy 97 = .ok (.getfield 271, 3) := by decide +kernel
theorem dX5_copy_100 : decode cX5_copy 100 = .ok (.iload_n 2, 1) := by decide +kernel
theorem dX5_copy_101 : decode cX5_copy 101 = .ok (.aload 7, 2) := by decide +kernel
theorem dX5_copy_103 : decode cX5_copy 103 = .ok (.getfield 271, 3) := by decide +kernel
theorem dX5_copy_106 : decode cX5_copy 106 = .ok (.iload 4, 2) := by decide +kernel
theorem dX5_copy_108 : decode cX5_copy 108 = .ok (.iload 5, 2) := by decide +kernel
theorem dX5_copy_110 : decode cX5_copy 110 = .ok (.invokestatic 280, 3) := by decide +kernel
theorem dX5_copy_113 : decode cX5_copy 113 = .ok (.iload 5, 2) := by decide +kernel
theorem dX5_copy_115 : decode cX5_copy 115 = .ok (.ireturn, 1) := by decide +kernel
theorem dX5_lay_0 : decode cX5_lay 0 = .ok (.iload_n 1, 1) := by decide +kernel
theorem dX5_lay_1 : decode cX5_lay 1 = .ok (.invokestatic 286, 3) := by decide +kernel
theorem dX5_lay_4 : decode cX5_lay 4 = .ok (.ifCond .eq 12, 3) := by decide +kernel
theorem dX5_lay_7 : decode cX5_lay 7 = .ok (.iload_n 2, 1) := by decide +kernel
theorem dX5_lay_8 : decode cX5_lay 8 = .ok (.iconst 0, 1) := by decide +kernel
theorem dX5_lay_9 : decode cX5_lay 9 = .ok (.iconst 3, 1) := by decide +kernel
theorem dX5_lay_10 : decode cX5_lay 10 = .ok (.invokestatic 66, 3) := by decide +kernel
theorem dX5_lay_13 : decode cX5_lay 13 = .ok (.ifCond .ne 6, 3) := by decide +kernel
theorem dX5_lay_16 : decode cX5_lay 16 = .ok (.ldc 73, 2) := by decide +kernel
theorem dX5_lay_18 : decode cX5_lay 18 = .ok (.ireturn, 1) := by decide +kernel
theorem dX5_lay_19 : decode cX5_lay 19 = .ok (.iload_n 2, 1) := by decide +kernel
theorem dX5_lay_20 : decode cX5_lay 20 = .ok (.iconst 1, 1) := by decide +kernel
theorem dX5_lay_21 : decode cX5_lay 21 = .ok (.if_icmp .ne 11, 3) := by decide +kernel
theorem dX5_lay_24 : decode cX5_lay 24 = .ok (.aload_n 0, 1) := by decide +kernel
theorem dX5_lay_25 : decode cX5_lay 25 = .ok (.iload_n 3, 1) := by decide +kernel
theorem dX5_lay_26 : decode cX5_lay 26 = .ok (.invokevirtual 83, 3) := by decide +kernel
theorem dX5_lay_29 : decode cX5_lay 29 = .ok (.ifCond .eq 15, 3) := by decide +kernel
theorem dX5_lay_32 : decode cX5_lay 32 = .ok (.iload_n 2, 1) := by decide +kernel
theorem dX5_lay_33 : decode cX5_lay 33 = .ok (.iconst 2, 1) := by decide +kernel
theorem dX5_lay_34 : decode cX5_lay 34 = .ok (.if_icmp .ne 13, 3) := by decide +kernel
theorem dX5_lay_37 : decode cX5_lay 37 = .ok (.iload_n 3, 1) := by decide +kernel
theorem dX5_lay_38 : decode cX5_lay 38 = .ok (.invokestatic 212, 3) := by decide +kernel
theorem dX5_lay_41 : decode cX5_lay 41 = .ok (.ifCond .ne 6, 3) := by decide +kernel
theorem dX5_lay_44 : decode cX5_lay 44 = .ok (.ldc 73, 2) := by decide +kernel
theorem dX5_lay_46 : decode cX5_lay 46 = .ok (.ireturn, 1) := by decide +kernel
theorem dX5_lay_47 : decode cX5_lay 47 = .ok (.iload_n 2, 1) := by decide +kernel
theorem dX5_lay_48 : decode cX5_lay 48 = .ok (.iconst 2, 1) := by decide +kernel
theorem dX5_lay_49 : decode cX5_lay 49 = .ok (.if_icmp .ne 14, 3) := by decide +kernel
theorem dX5_lay_52 : decode cX5_lay 52 = .ok (.aload_n 0, 1) := by decide +kernel
theorem dX5_lay_53 : decode cX5_lay 53 = .ok (.iload_n 3, 1) := by decide +kernel
theorem dX5_lay_54 : decode cX5_lay 54 = .ok (.invokevirtual 215, 3) := by decide +kernel
theorem dX5_lay_57 : decode cX5_lay 57 = .ok (.ifCond .eq 6, 3) := by decide +kernel
theorem dX5_lay_60 : decode cX5_lay 60 = .ok (.ldc 218, 2) := by decide +kernel
theorem dX5_lay_62 : decode cX5_lay 62 = .ok (.ireturn, 1) := by decide +kernel
theorem dX5_lay_63 : decode cX5_lay 63 = .ok (.aload_n 0, 1) := by decide +kernel
theorem dX5_lay_64 : decode cX5_lay 64 = .ok (.getfield 50, 3) := by decide +kernel
theorem dX5_lay_67 : decode cX5_lay 67 = .ok (.iload_n 1, 1) := by decide +kernel
theorem dX5_lay_68 : decode cX5_lay 68 = .ok (.aaload, 1) := by decide +kernel
theorem dX5_lay_69 : decode cX5_lay 69 = .ok (.astore 4, 2) := by decide +kernel
theorem dX5_lay_71 : decode cX5_lay 71 = .ok (.aload 4, 2) := by decide +kernel
theorem dX5_lay_73 : decode cX5_lay 73 = .ok (.getfield 289, 3) := by decide +kernel
theorem dX5_lay_76 : decode cX5_lay 76 = .ok (.istore 5, 2) := by decide +kernel
theorem dX5_lay_78 : decode cX5_lay 78 = .ok (.aload 4, 2) := by decide +kernel
theorem dX5_lay_80 : decode cX5_lay 80 = .ok (.iload_n 2, 1) := by decide +kernel
theorem dX5_lay_81 : decode cX5_lay 81 = .ok (.putfield 289, 3) := by decide +kernel
theorem dX5_lay_84 : decode cX5_lay 84 = .ok (.iload_n 2, 1) := by decide +kernel
theorem dX5_lay_85 : decode cX5_lay 85 = .ok (.iconst 1, 1) := by decide +kernel
theorem dX5_lay_86 : decode cX5_lay 86 = .ok (.if_icmp .ne 38, 3) := by decide +kernel
theorem dX5_lay_89 : decode cX5_lay 89 = .ok (.aload 4, 2) := by decide +kernel
theorem dX5_lay_91 : decode cX5_lay 91 = .ok (.aload_n 0, 1) := by decide +kernel
theorem dX5_lay_92 : decode cX5_lay 92 = .ok (.getfield 21, 3) := by decide +kernel
theorem dX5_lay_95 : decode cX5_lay 95 = .ok (.getfield 86, 3) := by decide +kernel
theorem dX5_lay_98 : decode cX5_lay 98 = .ok (.iload_n 3, 1) := by decide +kernel
theorem dX5_lay_99 : decode cX5_lay 99 = .ok (.iaload, 1) := by decide +kernel
theorem dX5_lay_100 : decode cX5_lay 100 = .ok (.aload_n 0, 1) := by decide +kernel
theorem dX5_lay_101 : decode cX5_lay 101 = .ok (.getfield 21, 3) := by decide +kernel
theorem dX5_lay_104 : decode cX5_lay 104 = .ok (.getfield 89, 3) := by decide +kernel
theorem dX5_lay_107 : decode cX5_lay 107 = .ok (.iload_n 3, 1) := by decide +kernel
theorem dX5_lay_108 : decode cX5_lay 108 = .ok (.iaload, 1) := by decide +kernel
theorem dX5_lay_109 : decode cX5_lay 109 = .ok (.aload_n 0, 1) := by decide +kernel
theorem dX5_lay_110 : decode cX5_lay 110 = .ok (.getfield 21, 3) := by decide +kernel
theorem dX5_lay_113 : decode cX5_lay 113 = .ok (.getfield 98, 3) := by decide +kernel
theorem dX5_lay_116 : decode cX5_lay 116 = .ok (.iload_n 3, 1) := by decide +kernel
theorem dX5_lay_117 : decode cX5_lay 117 = .ok (.iaload, 1) := by decide +kernel
theorem dX5_lay_118 : decode cX5_lay 118 = .ok (.invokevirtual 292, 3) := by decide +kernel
theorem dX5_lay_121 : decode cX5_lay 121 = .ok (.goto 36, 3) := by decide +kernel
theorem dX5_lay_124 : decode cX5_lay 124 = .ok (.iload_n 2, 1) := by decide +kernel
theorem dX5_lay_125 : decode cX5_lay 125 = .ok (.iconst 2, 1) := by decide +kernel
theorem dX5_lay_126 : decode cX5_lay 126 = .ok (.if_icmp .ne 20, 3) := by decide +kernel
theorem dX5_lay_129 : decode cX5_lay 129 = .ok (.aload 4, 2) := by decide +kernel
theorem dX5_lay_131 : decode cX5_lay 131 = .ok (.getfield 296, 3) := by decide +kernel
theorem dX5_lay_134 : decode cX5_lay 134 = .ok (.aload_n 0, 1) := by decide +kernel
theorem dX5_lay_135 : decode cX5_lay 135 = .ok (.getfield 44, 3) := by decide +kernel
theorem dX5_lay_138 : decode cX5_lay 138 = .ok (.iload_n 3, 1) := by decide +kernel
theorem dX5_lay_139 : decode cX5_lay 139 = .ok (.aaload, 1) := by decide +kernel
theorem dX5_lay_140 : decode cX5_lay 140 = .ok (.invokevirtual 300, 3) := by decide +kernel
theorem dX5_lay_143 : decode cX5_lay 143 = .ok (.goto 14, 3) := by decide +kernel
theorem dX5_lay_146 : decode cX5_lay 146 = .ok (.iload_n 2, 1) := by decide +kernel
theorem dX5_lay_147 : decode cX5_lay 147 = .ok (.iconst 3, 1) := by decide +kernel
theorem dX5_lay_148 : decode cX5_lay 148 = .ok (.if_icmp .ne 9, 3) := by decide +kernel
theorem dX5_lay_151 : decode cX5_lay 151 = .ok (.aload 4, 2) := by decide +kernel
theorem dX5_lay_153 : decode cX5_lay 153 = .ok (.iload_n 3, 1) := by decide +kernel
theorem dX5_lay_154 : decode cX5_lay 154 = .ok (.putfield 302, 3) := by decide +kernel
theorem dX5_lay_157 : decode cX5_lay 157 = .ok (.iload 5, 2) := by decide +kernel
theorem dX5_lay_159 : decode cX5_lay 159 = .ok (.ireturn, 1) := by decide +kernel
theorem dX5_ask_0 : decode cX5_ask 0 = .ok (.iload_n 1, 1) := by decide +kernel
theorem dX5_ask_1 : decode cX5_ask 1 = .ok (.invokestatic 286, 3) := by decide +kernel
theorem dX5_ask_4 : decode cX5_ask 4 = .ok (.ifCond .eq 10, 3) := by decide +kernel
theorem dX5_ask_7 : decode cX5_ask 7 = .ok (.iload_n 2, 1) := by decide +kernel
theorem dX5_ask_8 : decode cX5_ask 8 = .ok (.invokestatic 62, 3) := by decide +kernel
theorem dX5_ask_11 : decode cX5_ask 11 = .ok (.ifCond .ne 6, 3) := by decide +kernel
theorem dX5_ask_14 : decode cX5_ask 14 = .ok (.ldc 73, 2) := by decide +kernel
theorem dX5_ask_16 : decode cX5_ask 16 = .ok (.ireturn, 1) := by decide +kernel
theorem dX5_ask_17 : decode cX5_ask 17 = .ok (.aload_n 0, 1) := by decide +kernel
theorem dX5_ask_18 : decode cX5_ask 18 = .ok (.getfield 50, 3) := by decide +kernel
theorem dX5_ask_21 : decode cX5_ask 21 = .ok (.iload_n 1, 1) := by decide +kernel
theorem dX5_ask_22 : decode cX5_ask 22 = .ok (.aaload, 1) := by decide +kernel
theorem dX5_ask_23 : decode cX5_ask 23 = .ok (.astore_n 3, 1) := by decide +kernel
theorem dX5_ask_24 : decode cX5_ask 24 = .ok (.aload_n 3, 1) := by decide +kernel
theorem dX5_ask_25 : decode cX5_ask 25 = .ok (.getfield 289, 3) := by decide +kernel
theorem dX5_ask_28 : decode cX5_ask 28 = .ok (.ifCond .ne 6, 3) := by decide +kernel
theorem dX5_ask_31 : decode cX5_ask 31 = .ok (.ldc 218, 2) := by decide +kernel
theorem dX5_ask_33 : decode cX5_ask 33 = .ok (.ireturn, 1) := by decide +kernel
theorem dX5_ask_34 : decode cX5_ask 34 = .ok (.aload_n 3, 1) := by decide +kernel
theorem dX5_ask_35 : decode cX5_ask 35 = .ok (.getfield 289, 3) := by decide +kernel
theorem dX5_ask_38 : decode cX5_ask 38 = .ok (.iconst 1, 1) := by decide +kernel
theorem dX5_ask_39 : decode cX5_ask 39 = .ok (.if_icmp .ne 14, 3) := by decide +kernel
theorem dX5_ask_42 : decode cX5_ask 42 = .ok (.aload_n 3, 1) := by decide +kernel
theorem dX5_ask_43 : decode cX5_ask 43 = .ok (.getfield 305, 3) := by decide +kernel
theorem dX5_ask_46 : decode cX5_ask 46 = .ok (.iload_n 2, 1) := by decide +kernel
theorem dX5_ask_47 : decode cX5_ask 47 = .ok (.invokestatic 115, 3) := by decide +kernel
theorem dX5_ask_50 : decode cX5_ask 50 = .ok (.ifCond .ne 6, 3) := by decide +kernel
theorem dX5_ask_53 : decode cX5_ask 53 = .ok (.ldc 119, 2) := by decide +kernel
theorem dX5_ask_55 : decode cX5_ask 55 = .ok (.ireturn, 1) := by decide +kernel
theorem dX5_ask_56 : decode cX5_ask 56 = .ok (.aload_n 3, 1) := by decide +kernel
theorem dX5_ask_57 : decode cX5_ask 57 = .ok (.getfield 305, 3) := by decide +kernel
theorem dX5_ask_60 : decode cX5_ask 60 = .ok (.aload_n 3, 1) := by decide +kernel
theorem dX5_ask_61 : decode cX5_ask 61 = .ok (.getfield 307, 3) := by decide +kernel
theorem dX5_ask_64 : decode cX5_ask 64 = .ok (.aload_n 3, 1) := by decide +kernel
theorem dX5_ask_65 : decode cX5_ask 65 = .ok (.getfield 309, 3) := by decide +kernel
theorem dX5_ask_68 : decode cX5_ask 68 = .ok (.invokestatic 111, 3) := by decide +kernel
theorem dX5_ask_71 : decode cX5_ask 71 = .ok (.ireturn, 1) := by decide +kernel
theorem dX5_item_0 : decode cX5_item 0 = .ok (.iload_n 1, 1) := by decide +kernel
theorem dX5_item_1 : decode cX5_item 1 = .ok (.invokestatic 286, 3) := by decide +kernel
theorem dX5_item_4 : decode cX5_item 4 = .ok (.ifCond .ne 6, 3) := by decide +kernel
theorem dX5_item_7 : decode cX5_item 7 = .ok (.ldc 73, 2) := by decide +kernel
theorem dX5_item_9 : decode cX5_item 9 = .ok (.ireturn, 1) := by decide +kernel
theorem dX5_item_10 : decode cX5_item 10 = .ok (.aload_n 0, 1) := by decide +kernel
theorem dX5_item_11 : decode cX5_item 11 = .ok (.getfield 50, 3) := by decide +kernel
theorem dX5_item_14 : decode cX5_item 14 = .ok (.iload_n 1, 1) := by decide +kernel
theorem dX5_item_15 : decode cX5_item 15 = .ok (.aaload, 1) := by decide +kernel
theorem dX5_item_16 : decode cX5_item 16 = .ok (.astore_n 3, 1) := by decide +kernel
theorem dX5_item_17 : decode cX5_item 17 = .ok (.aload_n 3, 1) := by decide +kernel
theorem dX5_item_18 : decode cX5_item 18 = .ok (.getfield 289, 3) := by decide +kernel
theorem dX5_item_21 : decode cX5_item 21 = .ok (.ifCond .ne 6, 3) := by decide +kernel
theorem dX5_item_24 : decode cX5_item 24 = .ok (.ldc 218, 2) := by decide +kernel
theorem dX5_item_26 : decode cX5_item 26 = .ok (.ireturn, 1) := by decide +kernel
theorem dX5_item_27 : decode cX5_item 27 = .ok (.aload_n 3, 1) := by decide +kernel
theorem dX5_item_28 : decode cX5_item 28 = .ok (.getfield 289, 3) := by decide +kernel
theorem dX5_item_31 : decode cX5_item 31 = .ok (.iconst 2, 1) := by decide +kernel
theorem dX5_item_32 : decode cX5_item 32 = .ok (.if_icmp .eq 6, 3) := by decide +kernel
theorem dX5_item_35 : decode cX5_item 35 = .ok (.ldc 119, 2) := by decide +kernel
theorem dX5_item_37 : decode cX5_item 37 = .ok (.ireturn, 1) := by decide +kernel
theorem dX5_item_38 : decode cX5_item 38 = .ok (.iload_n 2, 1) := by decide +kernel
theorem dX5_item_39 : decode cX5_item 39 = .ok (.iconst 0, 1) := by decide +kernel
theorem dX5_item_40 : decode cX5_item 40 = .ok (.aload_n 3, 1) := by decide +kernel
theorem dX5_item_41 : decode cX5_item 41 = .ok (.getfield 296, 3) := by decide +kernel
theorem dX5_item_44 : decode cX5_item 44 = .ok (.getfield 263, 3) := by decide +kernel
theorem dX5_item_47 : decode cX5_item 47 = .ok (.iconst 1, 1) := by decide +kernel
theorem dX5_item_48 : decode cX5_item 48 = .ok (.isub, 1) := by decide +kernel
theorem dX5_item_49 : decode cX5_item 49 = .ok (.invokestatic 66, 3) := by decide +kernel
theorem dX5_item_52 : decode cX5_item 52 = .ok (.ifCond .ne 7, 3) := by decide +kernel
theorem dX5_item_55 : decode cX5_item 55 = .ok (.ldc_w 266, 3) := by decide +kernel
theorem dX5_item_58 : decode cX5_item 58 = .ok (.ireturn, 1) := by decide +kernel
theorem dX5_item_59 : decode cX5_item 59 = .ok (.aload_n 3, 1) := by decide +kernel
theorem dX5_item_60 : decode cX5_item 60 = .ok (.getfield 296, 3) := by decide +kernel
theorem dX5_item_63 : decode cX5_item 63 = .ok (.getfield 271, 3) := by decide +kernel
theorem dX5_item_66 : decode cX5_item 66 = .ok (.iload_n 2, 1) := by decide +kernel
theorem dX5_item_67 : decode cX5_item 67 = .ok (.iaload, 1) := by decide +kernel
theorem dX5_item_68 : decode cX5_item 68 = .ok (.istore 4, 2) := by decide +kernel
theorem dX5_item_70 : decode cX5_item 70 = .ok (.iload 4, 2) := by decide +kernel
theorem dX5_item_72 : decode cX5_item 72 = .ok (.ldc 161, 2) := by decide +kernel
theorem dX5_item_74 : decode cX5_item 74 = .ok (.if_icmp .ne 8, 3) := by decide +kernel
theorem dX5_item_77 : decode cX5_item 77 = .ok (.ldc 119, 2) := by decide +kernel
theorem dX5_item_79 : decode cX5_item 79 = .ok (.goto 5, 3) := by decide +kernel
theorem dX5_item_82 : decode cX5_item 82 = .ok (.iload 4, 2) := by decide +kernel
theorem dX5_item_84 : decode cX5_item 84 = .ok (.ireturn, 1) := by decide +kernel
theorem dX5_rest_0 : decode cX5_rest 0 = .ok (.iload_n 1, 1) := by decide +kernel
theorem dX5_rest_1 : decode cX5_rest 1 = .ok (.invokestatic 286, 3) := by decide +kernel
theorem dX5_rest_4 : decode cX5_rest 4 = .ok (.ifCond .ne 6, 3) := by decide +kernel
theorem dX5_rest_7 : decode cX5_rest 7 = .ok (.ldc 73, 2) := by decide +kernel
theorem dX5_rest_9 : decode cX5_rest 9 = .ok (.ireturn, 1) := by decide +kernel
theorem dX5_rest_10 : decode cX5_rest 10 = .ok (.aload_n 0, 1) := by decide +kernel
theorem dX5_rest_11 : decode cX5_rest 11 = .ok (.getfield 50, 3) := by decide +kernel
theorem dX5_rest_14 : decode cX5_rest 14 = .ok (.iload_n 1, 1) := by decide +kernel
theorem dX5_rest_15 : decode cX5_rest 15 = .ok (.aaload, 1) := by decide +kernel
theorem dX5_rest_16 : decode cX5_rest 16 = .ok (.astore_n 3, 1) := by decide +kernel
theorem dX5_rest_17 : decode cX5_rest 17 = .ok (.aload_n 3, 1) := by decide +kernel
theorem dX5_rest_18 : decode cX5_rest 18 = .ok (.getfield 289, 3) := by decide +kernel
theorem dX5_rest_21 : decode cX5_rest 21 = .ok (.ifCond .ne 6, 3) := by decide +kernel
theorem dX5_rest_24 : decode cX5_rest 24 = .ok (.ldc 218, 2) := by decide +kernel
theorem dX5_rest_26 : decode cX5_rest 26 = .ok (.ireturn, 1) := by decide +kernel
theorem dX5_rest_27 : decode cX5_rest 27 = .ok (.aload_n 3, 1) := by decide +kernel
theorem dX5_rest_28 : decode cX5_rest 28 = .ok (.getfield 289, 3) := by decide +kernel
theorem dX5_rest_31 : decode cX5_rest 31 = .ok (.iconst 3, 1) := by decide +kernel
theorem dX5_rest_32 : decode cX5_rest 32 = .ok (.if_icmp .eq 6, 3) := by decide +kernel
theorem dX5_rest_35 : decode cX5_rest 35 = .ok (.ldc 119, 2) := by decide +kernel
theorem dX5_rest_37 : decode cX5_rest 37 = .ok (.ireturn, 1) := by decide +kernel
theorem dX5_rest_38 : decode cX5_rest 38 = .ok (.iload_n 2, 1) := by decide +kernel
theorem dX5_rest_39 : decode cX5_rest 39 = .ok (.ifCond .ne 9, 3) := by decide +kernel
theorem dX5_rest_42 : decode cX5_rest 42 = .ok (.ldc_w 311, 3) := by decide +kernel
theorem dX5_rest_45 : decode cX5_rest 45 = .ok (.goto 9, 3) := by decide +kernel
theorem dX5_rest_48 : decode cX5_rest 48 = .ok (.aload_n 3, 1) := by decide +kernel
theorem dX5_rest_49 : decode cX5_rest 49 = .ok (.getfield 302, 3) := by decide +kernel
theorem dX5_rest_52 : decode cX5_rest 52 = .ok (.iload_n 2, 1) := by decide +kernel
theorem dX5_rest_53 : decode cX5_rest 53 = .ok (.irem, 1) := by decide +kernel
theorem dX5_rest_54 : decode cX5_rest 54 = .ok (.ireturn, 1) := by decide +kernel
theorem dX5_tell_0 : decode cX5_tell 0 = .ok (.aload_n 0, 1) := by decide +kernel
theorem dX5_tell_1 : decode cX5_tell 1 = .ok (.getfield 312, 3) := by decide +kernel
theorem dX5_tell_4 : decode cX5_tell 4 = .ok (.bipush 60, 2) := by decide +kernel
theorem dX5_tell_6 : decode cX5_tell 6 = .ok (.if_icmp .lt 6, 3) := by decide +kernel
theorem dX5_tell_9 : decode cX5_tell 9 = .ok (.ldc 78, 2) := by decide +kernel
theorem dX5_tell_11 : decode cX5_tell 11 = .ok (.ireturn, 1) := by decide +kernel
theorem dX5_tell_12 : decode cX5_tell 12 = .ok (.aload_n 0, 1) := by decide +kernel
theorem dX5_tell_13 : decode cX5_tell 13 = .ok (.getfield 54, 3) := by decide +kernel
theorem dX5_tell_16 : decode cX5_tell 16 = .ok (.aload_n 0, 1) := by decide +kernel
theorem dX5_tell_17 : decode cX5_tell 17 = .ok (.getfield 312, 3) := by decide +kernel
theorem dX5_tell_20 : decode cX5_tell 20 = .ok (.iload_n 1, 1) := by decide +kernel
theorem dX5_tell_21 : decode cX5_tell 21 = .ok (.iastore, 1) := by decide +kernel
theorem dX5_tell_22 : decode cX5_tell 22 = .ok (.aload_n 0, 1) := by decide +kernel
theorem dX5_tell_23 : decode cX5_tell 23 = .ok (.dup, 1) := by decide +kernel
theorem dX5_tell_24 : decode cX5_tell 24 = .ok (.getfield 312, 3) := by decide +kernel
theorem dX5_tell_27 : decode cX5_tell 27 = .ok (.iconst 1, 1) := by decide +kernel
theorem dX5_tell_28 : decode cX5_tell 28 = .ok (.iadd, 1) := by decide +kernel
theorem dX5_tell_29 : decode cX5_tell 29 = .ok (.putfield 312, 3) := by decide +kernel
theorem dX5_tell_32 : decode cX5_tell 32 = .ok (.aload_n 0, 1) := by decide +kernel
theorem dX5_tell_33 : decode cX5_tell 33 = .ok (.getfield 312, 3) := by decide +kernel
theorem dX5_tell_36 : decode cX5_tell 36 = .ok (.ireturn, 1) := by decide +kernel
theorem dX5_check_0 : decode cX5_check 0 = .ok (.aload_n 0, 1) := by decide +kernel
theorem dX5_check_1 : decode cX5_check 1 = .ok (.getfield 312, 3) := by decide +kernel
theorem dX5_check_4 : decode cX5_check 4 = .ok (.istore_n 2, 1) := by decide +kernel
theorem dX5_check_5 : decode cX5_check 5 = .ok (.aload_n 0, 1) := by decide +kernel
theorem dX5_check_6 : decode cX5_check 6 = .ok (.iconst 0, 1) := by decide +kernel
theorem dX5_check_7 : decode cX5_check 7 = .ok (.putfield 312, 3) := by decide +kernel
theorem dX5_check_10 : decode cX5_check 10 = .ok (.iload_n 1, 1) := by decide +kernel
theorem dX5_check_11 : decode cX5_check 11 = .ok (.iconst 1, 1) := by decide +kernel
theorem dX5_check_12 : decode cX5_check 12 = .ok (.bipush 30, 2) := by decide +kernel
theorem dX5_check_14 : decode cX5_check 14 = .ok (.invokestatic 66, 3) := by decide +kernel
theorem dX5_check_17 : decode cX5_check 17 = .ok (.ifCond .ne 6, 3) := by decide +kernel
theorem dX5_check_20 : decode cX5_check 20 = .ok (.ldc 73, 2) := by decide +kernel
theorem dX5_check_22 : decode cX5_check 22 = .ok (.ireturn, 1) := by decide +kernel
theorem dX5_check_23 : decode cX5_check 23 = .ok (.aload_n 0, 1) := by decide +kernel
theorem dX5_check_24 : decode cX5_check 24 = .ok (.getfield 315, 3) := by decide +kernel
theorem dX5_check_27 : decode cX5_check 27 = .ok (.ifCond .ne 7, 3) := by decide +kernel
theorem dX5_check_30 : decode cX5_check 30 = .ok (.ldc_w 311, 3) := by decide +kernel
theorem dX5_check_33 : decode cX5_check 33 = .ok (.ireturn, 1) := by decide +kernel
theorem dX5_check_34 : decode cX5_check 34 = .ok (.aload_n 0, 1) := by decide +kernel
theorem dX5_check_35 : decode cX5_check 35 = .ok (.getfield 28, 3) := by decide +kernel
theorem dX5_check_38 : decode cX5_check 38 = .ok (.aload_n 0, 1) := by decide +kernel
theorem dX5_check_39 : decode cX5_check 39 = .ok (.getfield 25, 3) := by decide +kernel
theorem dX5_check_42 : decode cX5_check 42 = .ok (.invokevirtual 195, 3) := by decide +kernel
theorem dX5_check_45 : decode cX5_check 45 = .ok (.iconst 2, 1) := by decide +kernel
theorem dX5_check_46 : decode cX5_check 46 = .ok (.iload_n 1, 1) := by decide +kernel
theorem dX5_check_47 : decode cX5_check 47 = .ok (.sipush 9999, 3) := by decide +kernel
theorem dX5_check_50 : decode cX5_check 50 = .ok (.aload_n 0, 1) := by decide +kernel
theorem dX5_check_51 : decode cX5_check 51 = .ok (.getfield 28, 3) := by decide +kernel
theorem dX5_check_54 : decode cX5_check 54 = .ok (.getfield 179, 3) := by decide +kernel
theorem dX5_check_57 : decode cX5_check 57 = .ok (.isub, 1) := by decide +kernel
theorem dX5_check_58 : decode cX5_check 58 = .ok (.invokestatic 149, 3) := by decide +kernel
theorem dX5_check_61 : decode cX5_check 61 = .ok (.imul, 1) := by decide +kernel
theorem dX5_check_62 : decode cX5_check 62 = .ok (.istore_n 3, 1) := by decide +kernel
theorem dX5_check_63 : decode cX5_check 63 = .ok (.iconst 0, 1) := by decide +kernel
theorem dX5_check_64 : decode cX5_check 64 = .ok (.istore 4, 2) := by decide +kernel
theorem dX5_check_66 : decode cX5_check 66 = .ok (.iload 4, 2) := by decide +kernel
theorem dX5_check_68 : decode cX5_check 68 = .ok (.iload_n 3, 1) := by decide +kernel
theorem dX5_check_69 : decode cX5_check 69 = .ok (.if_icmp .ge 64, 3) := by decide +kernel
theorem dX5_check_72 : decode cX5_check 72 = .ok (.iload 4, 2) := by decide +kernel
theorem dX5_check_74 : decode cX5_check 74 = .ok (.iconst 2, 1) := by decide +kernel
theorem dX5_check_75 : decode cX5_check 75 = .ok (.irem, 1) := by decide +kernel
theorem dX5_check_76 : decode cX5_check 76 = .ok (.ifCond .ne 11, 3) := by decide +kernel
theorem dX5_check_79 : decode cX5_check 79 = .ok (.aload_n 0, 1) := by decide +kernel
theorem dX5_check_80 : decode cX5_check 80 = .ok (.getfield 28, 3) := by decide +kernel
theorem dX5_check_83 : decode cX5_check 83 = .ok (.iconst 1, 1) := by decide +kernel
theorem dX5_check_84 : decode cX5_check 84 = .ok (.invokevirtual 182, 3) := by decide +kernel
theorem dX5_check_87 : decode cX5_check 87 = .ok (.iload 4, 2) := by decide +kernel
theorem dX5_check_89 : decode cX5_check 89 = .ok (.iload_n 2, 1) := by decide +kernel
theorem dX5_check_90 : decode cX5_check 90 = .ok (.if_icmp .ge 32, 3) := by decide +kernel
theorem dX5_check_93 : decode cX5_check 93 = .ok (.aload_n 0, 1) := by decide +kernel
theorem dX5_check_94 : decode cX5_check 94 = .ok (.getfield 54, 3) := by decide +kernel
theorem dX5_check_97 : decode cX5_check 97 = .ok (.iload 4, 2) := by decide +kernel
theorem dX5_check_99 : decode cX5_check 99 = .ok (.iaload, 1) := by decide +kernel
theorem dX5_check_100 : decode cX5_check 100 = .ok (.aload_n 0, 1) := by decide +kernel
theorem dX5_check_101 : decode cX5_check 101 = .ok (.getfield 28, 3) := by decide +kernel
theorem dX5_check_104 : decode cX5_check 104 = .ok (.iload 4, 2) := by decide +kernel
theorem dX5_check_106 : decode cX5_check 106 = .ok (.iconst 2, 1) := by decide +kernel
theorem dX5_check_107 : decode cX5_check 107 = .ok (.irem, 1) := by decide +kernel
theorem dX5_check_108 : decode cX5_check 108 = .ok (.ifCond .ne 7, 3) := by decide +kernel
theorem dX5_check_111 : decode cX5_check 111 = .ok (.iconst 0, 1) := by decide +kernel
theorem dX5_check_112 : decode cX5_check 112 = .ok (.goto 4, 3) := by decide +kernel
theorem dX5_check_115 : decode cX5_check 115 = .ok (.iconst 2, 1) := by decide +kernel
theorem dX5_check_116 : decode cX5_check 116 = .ok (.invokevirtual 186, 3) := by decide +kernel
theorem dX5_check_119 : decode cX5_check 119 = .ok (.if_icmp .eq 8, 3) := by decide +kernel
theorem dX5_check_122 : decode cX5_check 122 = .ok (.iconst 1, 1) := by decide +kernel
theorem dX5_check_123 : decode cX5_check 123 = .ok (.iload 4, 2) := by decide +kernel
theorem dX5_check_125 : decode cX5_check 125 = .ok (.iadd, 1) := by decide +kernel
theorem dX5_check_126 : decode cX5_check 126 = .ok (.ireturn, 1) := by decide +kernel
theorem dX5_check_127 : decode cX5_check 127 = .ok (.iinc 4 1, 3) := by decide +kernel
theorem dX5_check_130 : decode cX5_check 130 = .ok (.goto (-64), 3) := by decide +kernel
theorem dX5_check_133 : decode cX5_check 133 = .ok (.iload_n 2, 1) := by decide +kernel
theorem dX5_check_134 : decode cX5_check 134 = .ok (.iload_n 3, 1) := by decide +kernel
theorem dX5_check_135 : decode cX5_check 135 = .ok (.if_icmp .ne 7, 3) := by decide +kernel
theorem dX5_check_138 : decode cX5_check 138 = .ok (.iconst 0, 1) := by decide +kernel
theorem dX5_check_139 : decode cX5_check 139 = .ok (.goto 6, 3) := by decide +kernel
theorem dX5_check_142 : decode cX5_check 142 = .ok (.iconst 1, 1) := by decide +kernel
theorem dX5_check_143 : decode cX5_check 143 = .ok (.iload_n 3, 1) := by decide +kernel
theorem dX5_check_144 : decode cX5_check 144 = .ok (.iadd, 1) := by decide +kernel
theorem dX5_check_145 : decode cX5_check 145 = .ok (.ireturn, 1) := by decide +kernel
theorem dX5_keep_0 : decode cX5_keep 0 = .ok (.aload_n 0, 1) := by decide +kernel
theorem dX5_keep_1 : decode cX5_keep 1 = .ok (.getfield 25, 3) := by decide +kernel
theorem dX5_keep_4 : decode cX5_keep 4 = .ok (.aload_n 0, 1) := by decide +kernel
theorem dX5_keep_5 : decode cX5_keep 5 = .ok (.getfield 21, 3) := by decide +kernel
theorem dX5_keep_8 : decode cX5_keep 8 = .ok (.invokevirtual 195, 3) := by decide +kernel
theorem dX5_keep_11 : decode cX5_keep 11 = .ok (.aload_n 0, 1) := by decide +kernel
theorem dX5_keep_12 : decode cX5_keep 12 = .ok (.iconst 1, 1) := by decide +kernel
theorem dX5_keep_13 : decode cX5_keep 13 = .ok (.putfield 315, 3) := by decide +kernel
theorem dX5_keep_16 : decode cX5_keep 16 = .ok (.aload_n 0, 1) := by decide +kernel
theorem dX5_keep_17 : decode cX5_keep 17 = .ok (.getfield 25, 3) := by decide +kernel
theorem dX5_keep_20 : decode cX5_keep 20 = .ok (.getfield 74, 3) := by decide +kernel
theorem dX5_keep_23 : decode cX5_keep 23 = .ok (.ireturn, 1) := by decide +kernel
theorem dX5_back_0 : decode cX5_back 0 = .ok (.aload_n 0, 1) := by decide +kernel
theorem dX5_back_1 : decode cX5_back 1 = .ok (.getfield 315, 3) := by decide +kernel
theorem dX5_back_4 : decode cX5_back 4 = .ok (.ifCond .ne 7, 3) := by decide +kernel
theorem dX5_back_7 : decode cX5_back 7 = .ok (.ldc_w 311, 3) := by decide +kernel
theorem dX5_back_10 : decode cX5_back 10 = .ok (.ireturn, 1) := by decide +kernel
theorem dX5_back_11 : decode cX5_back 11 = .ok (.aload_n 0, 1) := by decide +kernel
theorem dX5_back_12 : decode cX5_back 12 = .ok (.getfield 21, 3) := by decide +kernel
theorem dX5_back_15 : decode cX5_back 15 = .ok (.aload_n 0, 1) := by decide +kernel
theorem dX5_back_16 : decode cX5_back 16 = .ok (.getfield 25, 3) := by decide +kernel
theorem dX5_back_19 : decode cX5_back 19 = .ok (.invokevirtual 195, 3) := by decide +kernel
theorem dX5_back_22 : decode cX5_back 22 = .ok (.aload_n 0, 1) := by decide +kernel
theorem dX5_back_23 : decode cX5_back 23 = .ok (.getfield 21, 3) := by decide +kernel
theorem dX5_back_26 : decode cX5_back 26 = .ok (.getfield 74, 3) := by decide +kernel
theorem dX5_back_29 : decode cX5_back 29 = .ok (.ireturn, 1) := by decide +kernel
theorem dX5_count_0 : decode cX5_count 0 = .ok (.iload_n 1, 1) := by decide +kernel
theorem dX5_count_1 : decode cX5_count 1 = .ok (.tableswitch 123 0 8 #[51, 59, 67, 77, 87, 97, 105, 110, 115], 51) := by decide +kernel
theorem dX5_count_52 : decode cX5_count 52 = .ok (.aload_n 0, 1) := by decide +kernel
theorem dX5_count_53 : decode cX5_count 53 = .ok (.getfield 21, 3) := by decide +kernel
theorem dX5_count_56 : decode cX5_count 56 = .ok (.getfield 74, 3) := by decide +kernel
theorem dX5_count_59 : decode cX5_count 59 = .ok (.ireturn, 1) := by decide +kernel
theorem dX5_count_60 : decode cX5_count 60 = .ok (.aload_n 0, 1) := by decide +kernel
theorem dX5_count_61 : decode cX5_count 61 = .ok (.getfield 21, 3) := by decide +kernel
theorem dX5_count_64 : decode cX5_count 64 = .ok (.getfield 179, 3) := by decide +kernel
theorem dX5_count_67 : decode cX5_count 67 = .ok (.ireturn, 1) := by decide +kernel
theorem dX5_count_68 : decode cX5_count 68 = .ok (.aload_n 0, 1) := by decide +kernel
theorem dX5_count_69 : decode cX5_count 69 = .ok (.getfield 21, 3) := by decide +kernel
theorem dX5_count_72 : decode cX5_count 72 = .ok (.getfield 146, 3) := by decide +kernel
theorem dX5_count_75 : decode cX5_count 75 = .ok (.iconst 0, 1) := by decide +kernel
theorem dX5_count_76 : decode cX5_count 76 = .ok (.iaload, 1) := by decide +kernel
theorem dX5_count_77 : decode cX5_count 77 = .ok (.ireturn, 1) := by decide +kernel
theorem dX5_count_78 : decode cX5_count 78 = .ok (.aload_n 0, 1) := by decide +kernel
theorem dX5_count_79 : decode cX5_count 79 = .ok (.getfield 21, 3) := by decide +kernel
theorem dX5_count_82 : decode cX5_count 82 = .ok (.getfield 146, 3) := by decide +kernel
theorem dX5_count_85 : decode cX5_count 85 = .ok (.iconst 1, 1) := by decide +kernel
theorem dX5_count_86 : decode cX5_count 86 = .ok (.iaload, 1) := by decide +kernel
theorem dX5_count_87 : decode cX5_count 87 = .ok (.ireturn, 1) := by decide +kernel
theorem dX5_count_88 : decode cX5_count 88 = .ok (.aload_n 0, 1) := by decide +kernel
theorem dX5_count_89 : decode cX5_count 89 = .ok (.getfield 21, 3) := by decide +kernel
theorem dX5_count_92 : decode cX5_count 92 = .ok (.getfield 146, 3) := by decide +kernel
theorem dX5_count_95 : decode cX5_count 95 = .ok (.iconst 2, 1) := by decide +kernel
theorem dX5_count_96 : decode cX5_count 96 = .ok (.iaload, 1) := by decide +kernel
theorem dX5_count_97 : decode cX5_count 97 = .ok (.ireturn, 1) := by decide +kernel
theorem dX5_count_98 : decode cX5_count 98 = .ok (.aload_n 0, 1) := by decide +kernel
theorem dX5_count_99 : decode cX5_count 99 = .ok (.getfield 21, 3) := by decide +kernel
theorem dX5_count_102 : decode cX5_count 102 = .ok (.getfield 243, 3) := by decide +kernel
theorem dX5_count_105 : decode cX5_count 105 = .ok (.ireturn, 1) := by decide +kernel
theorem dX5_count_106 : decode cX5_count 106 = .ok (.aload_n 0, 1) := by decide +kernel
theorem dX5_count_107 : decode cX5_count 107 = .ok (.getfield 312, 3) := by decide +kernel
theorem dX5_count_110 : decode cX5_count 110 = .ok (.ireturn, 1) := by decide +kernel
theorem dX5_count_111 : decode cX5_count 111 = .ok (.aload_n 0, 1) := by decide +kernel
theorem dX5_count_112 : decode cX5_count 112 = .ok (.getfield 233, 3) := by decide +kernel
theorem dX5_count_115 : decode cX5_count 115 = .ok (.ireturn, 1) := by decide +kernel
theorem dX5_count_116 : decode cX5_count 116 = .ok (.aload_n 0, 1) := by decide +kernel
theorem dX5_count_117 : decode cX5_count 117 = .ok (.getfield 21, 3) := by decide +kernel
theorem dX5_count_120 : decode cX5_count 120 = .ok (.getfield 158, 3) := by decide +kernel
theorem dX5_count_123 : decode cX5_count 123 = .ok (.ireturn, 1) := by decide +kernel
theorem dX5_count_124 : decode cX5_count 124 = .ok (.ldc 73, 2) := by decide +kernel
theorem dX5_count_126 : decode cX5_count 126 = .ok (.ireturn, 1) := by decide +kernel
theorem dX5_within_0 : decode cX5_within 0 = .ok (.iload_n 0, 1) := by decide +kernel
theorem dX5_within_1 : decode cX5_within 1 = .ok (.iload_n 1, 1) := by decide +kernel
theorem dX5_within_2 : decode cX5_within 2 = .ok (.if_icmp .lt 12, 3) := by decide +kernel
theorem dX5_within_5 : decode cX5_within 5 = .ok (.iload_n 0, 1) := by decide +kernel
theorem dX5_within_6 : decode cX5_within 6 = .ok (.iload_n 2, 1) := by decide +kernel
theorem dX5_within_7 : decode cX5_within 7 = .ok (.if_icmp .gt 7, 3) := by decide +kernel
theorem dX5_within_10 : decode cX5_within 10 = .ok (.iconst 1, 1) := by decide +kernel
theorem dX5_within_11 : decode cX5_within 11 = .ok (.goto 4, 3) := by decide +kernel
theorem dX5_within_14 : decode cX5_within 14 = .ok (.iconst 0, 1) := by decide +kernel
theorem dX5_within_15 : decode cX5_within 15 = .ok (.ireturn, 1) := by decide +kernel
theorem dX5_held_0 : decode cX5_held 0 = .ok (.iconst 0, 1) := by decide +kernel
theorem dX5_held_1 : decode cX5_held 1 = .ok (.iload_n 1, 1) := by decide +kernel
theorem dX5_held_2 : decode cX5_held 2 = .ok (.iload_n 0, 1) := by decide +kernel
theorem dX5_held_3 : decode cX5_held 3 = .ok (.invokestatic 149, 3) := by decide +kernel
theorem dX5_held_6 : decode cX5_held 6 = .ok (.invokestatic 319, 3) := by decide +kernel
theorem dX5_held_9 : decode cX5_held 9 = .ok (.ireturn, 1) := by decide +kernel
theorem dX5_isKind_0 : decode cX5_isKind 0 = .ok (.iload_n 0, 1) := by decide +kernel
theorem dX5_isKind_1 : decode cX5_isKind 1 = .ok (.iconst 0, 1) := by decide +kernel
theorem dX5_isKind_2 : decode cX5_isKind 2 = .ok (.iconst 5, 1) := by decide +kernel
theorem dX5_isKind_3 : decode cX5_isKind 3 = .ok (.invokestatic 66, 3) := by decide +kernel
theorem dX5_isKind_6 : decode cX5_isKind 6 = .ok (.ireturn, 1) := by decide +kernel
theorem dX5_isCell_0 : decode cX5_isCell 0 = .ok (.iload_n 0, 1) := by decide +kernel
theorem dX5_isCell_1 : decode cX5_isCell 1 = .ok (.iconst 0, 1) := by decide +kernel
theorem dX5_isCell_2 : decode cX5_isCell 2 = .ok (.iconst 5, 1) := by decide +kernel
theorem dX5_isCell_3 : decode cX5_isCell 3 = .ok (.invokestatic 66, 3) := by decide +kernel
theorem dX5_isCell_6 : decode cX5_isCell 6 = .ok (.ireturn, 1) := by decide +kernel
theorem dX5_isSlot_0 : decode cX5_isSlot 0 = .ok (.iload_n 0, 1) := by decide +kernel
theorem dX5_isSlot_1 : decode cX5_isSlot 1 = .ok (.iconst 0, 1) := by decide +kernel
theorem dX5_isSlot_2 : decode cX5_isSlot 2 = .ok (.iconst 4, 1) := by decide +kernel
theorem dX5_isSlot_3 : decode cX5_isSlot 3 = .ok (.invokestatic 66, 3) := by decide +kernel
theorem dX5_isSlot_6 : decode cX5_isSlot 6 = .ok (.ireturn, 1) := by decide +kernel
theorem dX5_isSheet_0 : decode cX5_isSheet 0 = .ok (.iload_n 0, 1) := by decide +kernel
theorem dX5_isSheet_1 : decode cX5_isSheet 1 = .ok (.iconst 0, 1) := by decide +kernel
theorem dX5_isSheet_2 : decode cX5_isSheet 2 = .ok (.iconst 3, 1) := by decide +kernel
theorem dX5_isSheet_3 : decode cX5_isSheet 3 = .ok (.invokestatic 66, 3) := by decide +kernel
theorem dX5_isSheet_6 : decode cX5_isSheet 6 = .ok (.ireturn, 1) := by decide +kernel
theorem dX5_isMark_0 : decode cX5_isMark 0 = .ok (.iload_n 1, 1) := by decide +kernel
theorem dX5_isMark_1 : decode cX5_isMark 1 = .ok (.iconst 0, 1) := by decide +kernel
theorem dX5_isMark_2 : decode cX5_isMark 2 = .ok (.aload_n 0, 1) := by decide +kernel
theorem dX5_isMark_3 : decode cX5_isMark 3 = .ok (.getfield 21, 3) := by decide +kernel
theorem dX5_isMark_6 : decode cX5_isMark 6 = .ok (.getfield 74, 3) := by decide +kernel
theorem dX5_isMark_9 : decode cX5_isMark 9 = .ok (.iconst 1, 1) := by decide +kernel
theorem dX5_isMark_10 : decode cX5_isMark 10 = .ok (.isub, 1) := by decide +kernel
theorem dX5_isMark_11 : decode cX5_isMark 11 = .ok (.invokestatic 66, 3) := by decide +kernel
theorem dX5_isMark_14 : decode cX5_isMark 14 = .ok (.ireturn, 1) := by decide +kernel
theorem dX5_isMissing_0 : decode cX5_isMissing 0 = .ok (.aload_n 0, 1) := by decide +kernel
theorem dX5_isMissing_1 : decode cX5_isMissing 1 = .ok (.getfield 44, 3) := by decide +kernel
theorem dX5_isMissing_4 : decode cX5_isMissing 4 = .ok (.iload_n 1, 1) := by decide +kernel
theorem dX5_isMissing_5 : decode cX5_isMissing 5 = .ok (.aaload, 1) := by decide +kernel
theorem dX5_isMissing_6 : decode cX5_isMissing 6 = .ok (.getfield 267, 3) := by decide +kernel
theorem dX5_isMissing_9 : decode cX5_isMissing 9 = .ok (.iconst (-1), 1) := by decide +kernel
theorem dX5_isMissing_10 : decode cX5_isMissing 10 = .ok (.if_icmp .ne 7, 3) := by decide +kernel
theorem dX5_isMissing_13 : decode cX5_isMissing 13 = .ok (.iconst 1, 1) := by decide +kernel
theorem dX5_isMissing_14 : decode cX5_isMissing 14 = .ok (.goto 4, 3) := by decide +kernel
theorem dX5_isMissing_17 : decode cX5_isMissing 17 = .ok (.iconst 0, 1) := by decide +kernel
theorem dX5_isMissing_18 : decode cX5_isMissing 18 = .ok (.ireturn, 1) := by decide +kernel
theorem dX5_isOf_0 : decode cX5_isOf 0 = .ok (.iload_n 0, 1) := by decide +kernel
theorem dX5_isOf_1 : decode cX5_isOf 1 = .ok (.istore_n 2, 1) := by decide +kernel
theorem dX5_isOf_2 : decode cX5_isOf 2 = .ok (.iconst 0, 1) := by decide +kernel
theorem dX5_isOf_3 : decode cX5_isOf 3 = .ok (.istore_n 3, 1) := by decide +kernel
theorem dX5_isOf_4 : decode cX5_isOf 4 = .ok (.iload_n 3, 1) := by decide +kernel
theorem dX5_isOf_5 : decode cX5_isOf 5 = .ok (.iconst 5, 1) := by decide +kernel
theorem dX5_isOf_6 : decode cX5_isOf 6 = .ok (.if_icmp .gt 29, 3) := by decide +kernel
theorem dX5_isOf_9 : decode cX5_isOf 9 = .ok (.iload_n 2, 1) := by decide +kernel
theorem dX5_isOf_10 : decode cX5_isOf 10 = .ok (.invokestatic 62, 3) := by decide +kernel
theorem dX5_isOf_13 : decode cX5_isOf 13 = .ok (.ifCond .eq 22, 3) := by decide +kernel
theorem dX5_isOf_16 : decode cX5_isOf 16 = .ok (.iload_n 2, 1) := by decide +kernel
theorem dX5_isOf_17 : decode cX5_isOf 17 = .ok (.iload_n 1, 1) := by decide +kernel
theorem dX5_isOf_18 : decode cX5_isOf 18 = .ok (.if_icmp .ne 5, 3) := by decide +kernel
theorem dX5_isOf_21 : decode cX5_isOf 21 = .ok (.iconst 1, 1) := by decide +kernel
theorem dX5_isOf_22 : decode cX5_isOf 22 = .ok (.ireturn, 1) := by decide +kernel
theorem dX5_isOf_23 : decode cX5_isOf 23 = .ok (.getstatic 322, 3) := by decide +kernel
theorem dX5_isOf_26 : decode cX5_isOf 26 = .ok (.iload_n 2, 1) := by decide +kernel
theorem dX5_isOf_27 : decode cX5_isOf 27 = .ok (.iaload, 1) := by decide +kernel
theorem dX5_isOf_28 : decode cX5_isOf 28 = .ok (.istore_n 2, 1) := by decide +kernel
theorem dX5_isOf_29 : decode cX5_isOf 29 = .ok (.iinc 3 1, 3) := by decide +kernel
theorem dX5_isOf_32 : decode cX5_isOf 32 = .ok (.goto (-28), 3) := by decide +kernel
theorem dX5_isOf_35 : decode cX5_isOf 35 = .ok (.iconst 0, 1) := by decide +kernel
theorem dX5_isOf_36 : decode cX5_isOf 36 = .ok (.ireturn, 1) := by decide +kernel
theorem dX5_worthOf_0 : decode cX5_worthOf 0 = .ok (.iload_n 0, 1) := by decide +kernel
theorem dX5_worthOf_1 : decode cX5_worthOf 1 = .ok (.tableswitch 60 1 5 #[35, 45, 39, 50, 58], 35) := by decide +kernel
theorem dX5_worthOf_36 : decode cX5_worthOf 36 = .ok (.iload_n 1, 1) := by decide +kernel
theorem dX5_worthOf_37 : decode cX5_worthOf 37 = .ok (.iload_n 2, 1) := by decide +kernel
theorem dX5_worthOf_38 : decode cX5_worthOf 38 = .ok (.iadd, 1) := by decide +kernel
theorem dX5_worthOf_39 : decode cX5_worthOf 39 = .ok (.ireturn, 1) := by decide +kernel
theorem dX5_worthOf_40 : decode cX5_worthOf 40 = .ok (.iload_n 1, 1) := by decide +kernel
theorem dX5_worthOf_41 : decode cX5_worthOf 41 = .ok (.iload_n 2, 1) := by decide +kernel
theorem dX5_worthOf_42 : decode cX5_worthOf 42 = .ok (.iadd, 1) := by decide +kernel
theorem dX5_worthOf_43 : decode cX5_worthOf 43 = .ok (.iconst 2, 1) := by decide +kernel
theorem dX5_worthOf_44 : decode cX5_worthOf 44 = .ok (.idiv, 1) := by decide +kernel
theorem dX5_worthOf_45 : decode cX5_worthOf 45 = .ok (.ireturn, 1) := by decide +kernel
theorem dX5_worthOf_46 : decode cX5_worthOf 46 = .ok (.bipush 99, 2) := by decide +kernel
theorem dX5_worthOf_48 : decode cX5_worthOf 48 = .ok (.iload_n 1, 1) := by decide +kernel
theorem dX5_worthOf_49 : decode cX5_worthOf 49 = .ok (.isub, 1) := by decide +kernel
theorem dX5_worthOf_50 : decode cX5_worthOf 50 = .ok (.ireturn, 1) := by decide +kernel
theorem dX5_worthOf_51 : decode cX5_worthOf 51 = .ok (.bipush 99, 2) := by decide +kernel
theorem dX5_worthOf_53 : decode cX5_worthOf 53 = .ok (.iload_n 1, 1) := by decide +kernel
theorem dX5_worthOf_54 : decode cX5_worthOf 54 = .ok (.isub, 1) := by decide +kernel
theorem dX5_worthOf_55 : decode cX5_worthOf 55 = .ok (.bipush 7, 2) := by decide +kernel
theorem dX5_worthOf_57 : decode cX5_worthOf 57 = .ok (.iadd, 1) := by decide +kernel
theorem dX5_worthOf_58 : decode cX5_worthOf 58 = .ok (.ireturn, 1) := by decide +kernel
theorem dX5_worthOf_59 : decode cX5_worthOf 59 = .ok (.iload_n 2, 1) := by decide +kernel
theorem dX5_worthOf_60 : decode cX5_worthOf 60 = .ok (.ireturn, 1) := by decide +kernel
theorem dX5_worthOf_61 : decode cX5_worthOf 61 = .ok (.iload_n 1, 1) := by decide +kernel
theorem dX5_worthOf_62 : decode cX5_worthOf 62 = .ok (.ireturn, 1) := by decide +kernel
theorem dX5_replaced_0 : decode cX5_replaced 0 = .ok (.iload_n 1, 1) := by decide +kernel
theorem dX5_replaced_1 : decode cX5_replaced 1 = .ok (.iconst 0, 1) := by decide +kernel
theorem dX5_replaced_2 : decode cX5_replaced 2 = .ok (.aload_n 0, 1) := by decide +kernel
theorem dX5_replaced_3 : decode cX5_replaced 3 = .ok (.arraylength, 1) := by decide +kernel
theorem dX5_replaced_4 : decode cX5_replaced 4 = .ok (.iconst 1, 1) := by decide +kernel
theorem dX5_replaced_5 : decode cX5_replaced 5 = .ok (.isub, 1) := by decide +kernel
theorem dX5_replaced_6 : decode cX5_replaced 6 = .ok (.invokestatic 66, 3) := by decide +kernel
theorem dX5_replaced_9 : decode cX5_replaced 9 = .ok (.ifCond .eq 12, 3) := by decide +kernel
theorem dX5_replaced_12 : decode cX5_replaced 12 = .ok (.iload_n 2, 1) := by decide +kernel
theorem dX5_replaced_13 : decode cX5_replaced 13 = .ok (.iconst 0, 1) := by decide +kernel
theorem dX5_replaced_14 : decode cX5_replaced 14 = .ok (.iload_n 3, 1) := by decide +kernel
theorem dX5_replaced_15 : decode cX5_replaced 15 = .ok (.invokestatic 66, 3) := by decide +kernel
theorem dX5_replaced_18 : decode cX5_replaced 18 = .ok (.ifCond .ne 6, 3) := by decide +kernel
theorem dX5_replaced_21 : decode cX5_replaced 21 = .ok (.ldc 73, 2) := by decide +kernel
theorem dX5_replaced_23 : decode cX5_replaced 23 = .ok (.ireturn, 1) := by decide +kernel
theorem dX5_replaced_24 : decode cX5_replaced 24 = .ok (.aload_n 0, 1) := by decide +kernel
theorem dX5_replaced_25 : decode cX5_replaced 25 = .ok (.iload_n 1, 1) := by decide +kernel
theorem dX5_replaced_26 : decode cX5_replaced 26 = .ok (.iaload, 1) := by decide +kernel
theorem dX5_replaced_27 : decode cX5_replaced 27 = .ok (.istore 4, 2) := by decide +kernel
theorem dX5_replaced_29 : decode cX5_replaced 29 = .ok (.aload_n 0, 1) := by decide +kernel
theorem dX5_replaced_30 : decode cX5_replaced 30 = .ok (.iload_n 1, 1) := by decide +kernel
theorem dX5_replaced_31 : decode cX5_replaced 31 = .ok (.iload_n 2, 1) := by decide +kernel
theorem dX5_replaced_32 : decode cX5_replaced 32 = .ok (.iastore, 1) := by decide +kernel
theorem dX5_replaced_33 : decode cX5_replaced 33 = .ok (.iload 4, 2) := by decide +kernel
theorem dX5_replaced_35 : decode cX5_replaced 35 = .ok (.ireturn, 1) := by decide +kernel
theorem dX5_sumOf_0 : decode cX5_sumOf 0 = .ok (.iconst 0, 1) := by decide +kernel
theorem dX5_sumOf_1 : decode cX5_sumOf 1 = .ok (.istore_n 2, 1) := by decide +kernel
theorem dX5_sumOf_2 : decode cX5_sumOf 2 = .ok (.iconst 0, 1) := by decide +kernel
theorem dX5_sumOf_3 : decode cX5_sumOf 3 = .ok (.istore_n 3, 1) := by decide +kernel
theorem dX5_sumOf_4 : decode cX5_sumOf 4 = .ok (.iload_n 3, 1) := by decide +kernel
theorem dX5_sumOf_5 : decode cX5_sumOf 5 = .ok (.bipush 10, 2) := by decide +kernel
theorem dX5_sumOf_7 : decode cX5_sumOf 7 = .ok (.if_icmp .ge 26, 3) := by decide +kernel
theorem dX5_sumOf_10 : decode cX5_sumOf 10 = .ok (.iload_n 1, 1) := by decide +kernel
theorem dX5_sumOf_11 : decode cX5_sumOf 11 = .ok (.iload_n 3, 1) := by decide +kernel
theorem dX5_sumOf_12 : decode cX5_sumOf 12 = .ok (.ishr, 1) := by decide +kernel
theorem dX5_sumOf_13 : decode cX5_sumOf 13 = .ok (.iconst 1, 1) := by decide +kernel
theorem dX5_sumOf_14 : decode cX5_sumOf 14 = .ok (.iand, 1) := by decide +kernel
theorem dX5_sumOf_15 : decode cX5_sumOf 15 = .ok (.ifCond .eq 12, 3) := by decide +kernel
theorem dX5_sumOf_18 : decode cX5_sumOf 18 = .ok (.iload_n 2, 1) := by decide +kernel
theorem dX5_sumOf_19 : decode cX5_sumOf 19 = .ok (.aload_n 0, 1) := by decide +kernel
theorem dX5_sumOf_20 : decode cX5_sumOf 20 = .ok (.getfield 57, 3) := by decide +kernel
theorem dX5_sumOf_23 : decode cX5_sumOf 23 = .ok (.iload_n 3, 1) := by decide +kernel
theorem dX5_sumOf_24 : decode cX5_sumOf 24 = .ok (.iaload, 1) := by decide +kernel
theorem dX5_sumOf_25 : decode cX5_sumOf 25 = .ok (.iadd, 1) := by decide +kernel
theorem dX5_sumOf_26 : decode cX5_sumOf 26 = .ok (.istore_n 2, 1) := by decide +kernel
theorem dX5_sumOf_27 : decode cX5_sumOf 27 = .ok (.iinc 3 1, 3) := by decide +kernel
theorem dX5_sumOf_30 : decode cX5_sumOf 30 = .ok (.goto (-26), 3) := by decide +kernel
theorem dX5_sumOf_33 : decode cX5_sumOf 33 = .ok (.iload_n 2, 1) := by decide +kernel
theorem dX5_sumOf_34 : decode cX5_sumOf 34 = .ok (.ireturn, 1) := by decide +kernel
theorem dX5_sumDifferences_0 : decode cX5_sumDifferences 0 = .ok (.aload_n 0, 1) := by decide +kernel
theorem dX5_sumDifferences_1 : decode cX5_sumDifferences 1 = .ok (.getfield 57, 3) := by decide +kernel
theorem dX5_sumDifferences_4 : decode cX5_sumDifferences 4 = .ok (.iconst 0, 1) := by decide +kernel
theorem dX5_sumDifferences_5 : decode cX5_sumDifferences 5 = .ok (.invokestatic 325, 3) := by decide +kernel
theorem dX5_sumDifferences_8 : decode cX5_sumDifferences 8 = .ok (.aload_n 0, 1) := by decide +kernel
theorem dX5_sumDifferences_9 : decode cX5_sumDifferences 9 = .ok (.getfield 28, 3) := by decide +kernel
theorem dX5_sumDifferences_12 : decode cX5_sumDifferences 12 = .ok (.aload_n 0, 1) := by decide +kernel
theorem dX5_sumDifferences_13 : decode cX5_sumDifferences 13 = .ok (.getfield 21, 3) := by decide +kernel
theorem dX5_sumDifferences_16 : decode cX5_sumDifferences 16 = .ok (.invokevirtual 195, 3) := by decide +kernel
theorem dX5_sumDifferences_19 : decode cX5_sumDifferences 19 = .ok (.iconst 0, 1) := by decide +kernel
theorem dX5_sumDifferences_20 : decode cX5_sumDifferences 20 = .ok (.istore_n 2, 1) := by decide +kernel
theorem dX5_sumDifferences_21 : decode cX5_sumDifferences 21 = .ok (.iload_n 2, 1) := by decide +kernel
theorem dX5_sumDifferences_22 : decode cX5_sumDifferences 22 = .ok (.aload_n 1, 1) := by decide +kernel
theorem dX5_sumDifferences_23 : decode cX5_sumDifferences 23 = .ok (.getfield 263, 3) := by decide +kernel
theorem dX5_sumDifferences_26 : decode cX5_sumDifferences 26 = .ok (.if_icmp .ge 75, 3) := by decide +kernel
theorem dX5_sumDifferences_29 : decode cX5_sumDifferences 29 = .ok (.iconst 0, 1) := by decide +kernel
theorem dX5_sumDifferences_30 : decode cX5_sumDifferences 30 = .ok (.istore_n 3, 1) := by decide +kernel
theorem dX5_sumDifferences_31 : decode cX5_sumDifferences 31 = .ok (.iload_n 3, 1) := by decide +kernel
theorem dX5_sumDifferences_32 : decode cX5_sumDifferences 32 = .ok (.aload_n 0, 1) := by decide +kernel
theorem dX5_sumDifferences_33 : decode cX5_sumDifferences 33 = .ok (.getfield 28, 3) := by decide +kernel
theorem dX5_sumDifferences_36 : decode cX5_sumDifferences 36 = .ok (.getfield 74, 3) := by decide +kernel
theorem dX5_sumDifferences_39 : decode cX5_sumDifferences 39 = .ok (.if_icmp .ge 48, 3) := by decide +kernel
theorem dX5_sumDifferences_42 : decode cX5_sumDifferences 42 = .ok (.aload_n 1, 1) := by decide +kernel
theorem dX5_sumDifferences_43 : decode cX5_sumDifferences 43 = .ok (.getfield 271, 3) := by decide +kernel
theorem dX5_sumDifferences_46 : decode cX5_sumDifferences 46 = .ok (.iload_n 2, 1) := by decide +kernel
theorem dX5_sumDifferences_47 : decode cX5_sumDifferences 47 = .ok (.iaload, 1) := by decide +kernel
theorem dX5_sumDifferences_48 : decode cX5_sumDifferences 48 = .ok (.ldc 161, 2) := by decide +kernel
theorem dX5_sumDifferences_50 : decode cX5_sumDifferences 50 = .ok (.if_icmp .eq 37, 3) := by decide +kernel
theorem dX5_sumDifferences_53 : decode cX5_sumDifferences 53 = .ok (.aload_n 0, 1) := by decide +kernel
theorem dX5_sumDifferences_54 : decode cX5_sumDifferences 54 = .ok (.getfield 57, 3) := by decide +kernel
theorem dX5_sumDifferences_57 : decode cX5_sumDifferences 57 = .ok (.iload_n 3, 1) := by decide +kernel
theorem dX5_sumDifferences_58 : decode cX5_sumDifferences 58 = .ok (.dup2, 1) := by decide +kernel
theorem dX5_sumDifferences_59 : decode cX5_sumDifferences 59 = .ok (.iaload, 1) := by decide +kernel
theorem dX5_sumDifferences_60 : decode cX5_sumDifferences 60 = .ok (.aload_n 0, 1) := by decide +kernel
theorem dX5_sumDifferences_61 : decode cX5_sumDifferences 61 = .ok (.getfield 28, 3) := by decide +kernel
theorem dX5_sumDifferences_64 : decode cX5_sumDifferences 64 = .ok (.getfield 92, 3) := by decide +kernel
theorem dX5_sumDifferences_67 : decode cX5_sumDifferences 67 = .ok (.iload_n 3, 1) := by decide +kernel
theorem dX5_sumDifferences_68 : decode cX5_sumDifferences 68 = .ok (.iaload, 1) := by decide +kernel
theorem dX5_sumDifferences_69 : decode cX5_sumDifferences 69 = .ok (.aload_n 1, 1) := by decide +kernel
theorem dX5_sumDifferences_70 : decode cX5_sumDifferences 70 = .ok (.getfield 271, 3) := by decide +kernel
theorem dX5_sumDifferences_73 : decode cX5_sumDifferences 73 = .ok (.iload_n 2, 1) := by decide +kernel
theorem dX5_sumDifferences_74 : decode cX5_sumDifferences 74 = .ok (.iaload, 1) := by decide +kernel
theorem dX5_sumDifferences_75 : decode cX5_sumDifferences 75 = .ok (.isub, 1) := by decide +kernel
theorem dX5_sumDifferences_76 : decode cX5_sumDifferences 76 = .ok (.invokestatic 331, 3) := by decide +kernel
theorem dX5_sumDifferences_79 : decode cX5_sumDifferences 79 = .ok (.iadd, 1) := by decide +kernel
theorem dX5_sumDifferences_80 : decode cX5_sumDifferences 80 = .ok (.iastore, 1) := by decide +kernel
theorem dX5_sumDifferences_81 : decode cX5_sumDifferences 81 = .ok (.iinc 3 1, 3) := by decide +kernel
theorem dX5_sumDifferences_84 : decode cX5_sumDifferences 84 = .ok (.goto (-53), 3) := by decide +kernel
theorem dX5_sumDifferences_87 : decode cX5_sumDifferences 87 = .ok (.aload_n 0, 1) := by decide +kernel
theorem dX5_sumDifferences_88 : decode cX5_sumDifferences 88 = .ok (.getfield 28, 3) := by decide +kernel
theorem dX5_sumDifferences_91 : decode cX5_sumDifferences 91 = .ok (.iconst 1, 1) := by decide +kernel
theorem dX5_sumDifferences_92 : decode cX5_sumDifferences 92 = .ok (.invokevirtual 182, 3) := by decide +kernel
theorem dX5_sumDifferences_95 : decode cX5_sumDifferences 95 = .ok (.iinc 2 1, 3) := by decide +kernel
theorem dX5_sumDifferences_98 : decode cX5_sumDifferences 98 = .ok (.goto (-77), 3) := by decide +kernel
theorem dX5_sumDifferences_101 : decode cX5_sumDifferences 101 = .ok (.return_, 1) := by decide +kernel
theorem dX5_putBytes_0 : decode cX5_putBytes 0 = .ok (.bipush 24, 2) := by decide +kernel
theorem dX5_putBytes_2 : decode cX5_putBytes 2 = .ok (.istore_n 2, 1) := by decide +kernel
theorem dX5_putBytes_3 : decode cX5_putBytes 3 = .ok (.iload_n 2, 1) := by decide +kernel
theorem dX5_putBytes_4 : decode cX5_putBytes 4 = .ok (.ifCond .lt 44, 3) := by decide +kernel
theorem dX5_putBytes_7 : decode cX5_putBytes 7 = .ok (.aload_n 0, 1) := by decide +kernel
theorem dX5_putBytes_8 : decode cX5_putBytes 8 = .ok (.getfield 233, 3) := by decide +kernel
theorem dX5_putBytes_11 : decode cX5_putBytes 11 = .ok (.bipush 96, 2) := by decide +kernel
theorem dX5_putBytes_13 : decode cX5_putBytes 13 = .ok (.if_icmp .ge 35, 3) := by decide +kernel
theorem dX5_putBytes_16 : decode cX5_putBytes 16 = .ok (.aload_n 0, 1) := by decide +kernel
theorem dX5_putBytes_17 : decode cX5_putBytes 17 = .ok (.getfield 38, 3) := by decide +kernel
theorem dX5_putBytes_20 : decode cX5_putBytes 20 = .ok (.aload_n 0, 1) := by decide +kernel
theorem dX5_putBytes_21 : decode cX5_putBytes 21 = .ok (.getfield 233, 3) := by decide +kernel
theorem dX5_putBytes_24 : decode cX5_putBytes 24 = .ok (.iload_n 1, 1) := by decide +kernel
theorem dX5_putBytes_25 : decode cX5_putBytes 25 = .ok (.iload_n 2, 1) := by decide +kernel
theorem dX5_putBytes_26 : decode cX5_putBytes 26 = .ok (.iushr, 1) := by decide +kernel
theorem dX5_putBytes_27 : decode cX5_putBytes 27 = .ok (.sipush 255, 3) := by decide +kernel
theorem dX5_putBytes_30 : decode cX5_putBytes 30 = .ok (.iand, 1) := by decide +kernel
theorem dX5_putBytes_31 : decode cX5_putBytes 31 = .ok (.iastore, 1) := by decide +kernel
theorem dX5_putBytes_32 : decode cX5_putBytes 32 = .ok (.aload_n 0, 1) := by decide +kernel
theorem dX5_putBytes_33 : decode cX5_putBytes 33 = .ok (.dup, 1) := by decide +kernel
theorem dX5_putBytes_34 : decode cX5_putBytes 34 = .ok (.getfield 233, 3) := by decide +kernel
theorem dX5_putBytes_37 : decode cX5_putBytes 37 = .ok (.iconst 1, 1) := by decide +kernel
theorem dX5_putBytes_38 : decode cX5_putBytes 38 = .ok (.iadd, 1) := by decide +kernel
theorem dX5_putBytes_39 : decode cX5_putBytes 39 = .ok (.putfield 233, 3) := by decide +kernel
theorem dX5_putBytes_42 : decode cX5_putBytes 42 = .ok (.iinc 2 (-8), 3) := by decide +kernel
theorem dX5_putBytes_45 : decode cX5_putBytes 45 = .ok (.goto (-42), 3) := by decide +kernel
theorem dX5_putBytes_48 : decode cX5_putBytes 48 = .ok (.return_, 1) := by decide +kernel
