theorem dX0_init_0 : decode cX0_init 0 = .ok (.aload_n 0, 1) := by decide +kernel
theorem dX0_init_1 : decode cX0_init 1 = .ok (.invokespecial 3, 3) := by decide +kernel
theorem dX0_init_4 : decode cX0_init 4 = .ok (.aload_n 0, 1) := by decide +kernel
theorem dX0_init_5 : decode cX0_init 5 = .ok (.bipush 96, 2) := by decide +kernel
theorem dX0_init_7 : decode cX0_init 7 = .ok (.newarray .int, 2) := by decide +kernel
theorem dX0_init_9 : decode cX0_init 9 = .ok (.putfield 9, 3) := by decide +kernel
theorem dX0_init_12 : decode cX0_init 12 = .ok (.aload_n 0, 1) := by decide +kernel
theorem dX0_init_13 : decode cX0_init 13 = .ok (.iconst 0, 1) := by decide +kernel
theorem dX0_init_14 : decode cX0_init 14 = .ok (.newarray .int, 2) := by decide +kernel
theorem dX0_init_16 : decode cX0_init 16 = .ok (.putfield 15, 3) := by decide +kernel
theorem dX0_init_19 : decode cX0_init 19 = .ok (.return_, 1) := by decide +kernel
theorem dX0_faultOf_0 : decode cX0_faultOf 0 = .ok (.aload_n 0, 1) := by decide +kernel
theorem dX0_faultOf_1 : decode cX0_faultOf 1 = .ok (.aload_n 1, 1) := by decide +kernel
theorem dX0_faultOf_2 : decode cX0_faultOf 2 = .ok (.putfield 15, 3) := by decide +kernel
theorem dX0_faultOf_5 : decode cX0_faultOf 5 = .ok (.aload_n 0, 1) := by decide +kernel
theorem dX0_faultOf_6 : decode cX0_faultOf 6 = .ok (.iload_n 2, 1) := by decide +kernel
theorem dX0_faultOf_7 : decode cX0_faultOf 7 = .ok (.aload_n 1, 1) := by decide +kernel
theorem dX0_faultOf_8 : decode cX0_faultOf 8 = .ok (.arraylength, 1) := by decide +kernel
theorem dX0_faultOf_9 : decode cX0_faultOf 9 = .ok (.invokestatic 18, 3) := by decide +kernel
theorem dX0_faultOf_12 : decode cX0_faultOf 12 = .ok (.putfield 24, 3) := by decide +kernel
theorem dX0_faultOf_15 : decode cX0_faultOf 15 = .ok (.aload_n 0, 1) := by decide +kernel
theorem dX0_faultOf_16 : decode cX0_faultOf 16 = .ok (.iconst 0, 1) := by decide +kernel
theorem dX0_faultOf_17 : decode cX0_faultOf 17 = .ok (.putfield 28, 3) := by decide +kernel
theorem dX0_faultOf_20 : decode cX0_faultOf 20 = .ok (.aload_n 0, 1) := by decide +kernel
theorem dX0_faultOf_21 : decode cX0_faultOf 21 = .ok (.iconst 0, 1) := by decide +kernel
theorem dX0_faultOf_22 : decode cX0_faultOf 22 = .ok (.putfield 31, 3) := by decide +kernel
theorem dX0_faultOf_25 : decode cX0_faultOf 25 = .ok (.aload_n 0, 1) := by decide +kernel
theorem dX0_faultOf_26 : decode cX0_faultOf 26 = .ok (.iconst 0, 1) := by decide +kernel
theorem dX0_faultOf_27 : decode cX0_faultOf 27 = .ok (.putfield 34, 3) := by decide +kernel
theorem dX0_faultOf_30 : decode cX0_faultOf 30 = .ok (.aload_n 0, 1) := by decide +kernel
theorem dX0_faultOf_31 : decode cX0_faultOf 31 = .ok (.iconst 0, 1) := by decide +kernel
theorem dX0_faultOf_32 : decode cX0_faultOf 32 = .ok (.putfield 37, 3) := by decide +kernel
theorem dX0_faultOf_35 : decode cX0_faultOf 35 = .ok (.aload_n 0, 1) := by decide +kernel
theorem dX0_faultOf_36 : decode cX0_faultOf 36 = .ok (.iconst (-1), 1) := by decide +kernel
theorem dX0_faultOf_37 : decode cX0_faultOf 37 = .ok (.putfield 40, 3) := by decide +kernel
theorem dX0_faultOf_40 : decode cX0_faultOf 40 = .ok (.aload_n 0, 1) := by decide +kernel
theorem dX0_faultOf_41 : decode cX0_faultOf 41 = .ok (.invokevirtual 43, 3) := by decide +kernel
theorem dX0_faultOf_44 : decode cX0_faultOf 44 = .ok (.aload_n 0, 1) := by decide +kernel
theorem dX0_faultOf_45 : decode cX0_faultOf 45 = .ok (.aload_n 0, 1) := by decide +kernel
theorem dX0_faultOf_46 : decode cX0_faultOf 46 = .ok (.invokevirtual 46, 3) := by decide +kernel
theorem dX0_faultOf_49 : decode cX0_faultOf 49 = .ok (.putfield 50, 3) := by decide +kernel
theorem dX0_faultOf_52 : decode cX0_faultOf 52 = .ok (.aload_n 0, 1) := by decide +kernel
theorem dX0_faultOf_53 : decode cX0_faultOf 53 = .ok (.getfield 50, 3) := by decide +kernel
theorem dX0_faultOf_56 : decode cX0_faultOf 56 = .ok (.ifCond .ge 8, 3) := by decide +kernel
theorem dX0_faultOf_59 : decode cX0_faultOf 59 = .ok (.aload_n 0, 1) := by decide +kernel
theorem dX0_faultOf_60 : decode cX0_faultOf 60 = .ok (.getfield 53, 3) := by decide +kernel
theorem dX0_faultOf_63 : decode cX0_faultOf 63 = .ok (.ireturn, 1) := by decide +kernel
theorem dX0_faultOf_64 : decode cX0_faultOf 64 = .ok (.aload_n 0, 1) := by decide +kernel
theorem dX0_faultOf_65 : decode cX0_faultOf 65 = .ok (.invokevirtual 43, 3) := by decide +kernel
theorem dX0_faultOf_68 : decode cX0_faultOf 68 = .ok (.aload_n 0, 1) := by decide +kernel
theorem dX0_faultOf_69 : decode cX0_faultOf 69 = .ok (.iconst 0, 1) := by decide +kernel
theorem dX0_faultOf_70 : decode cX0_faultOf 70 = .ok (.iconst 0, 1) := by decide +kernel
theorem dX0_faultOf_71 : decode cX0_faultOf 71 = .ok (.iconst 0, 1) := by decide +kernel
theorem dX0_faultOf_72 : decode cX0_faultOf 72 = .ok (.invokevirtual 56, 3) := by decide +kernel
theorem dX0_faultOf_75 : decode cX0_faultOf 75 = .ok (.aload_n 0, 1) := by decide +kernel
theorem dX0_faultOf_76 : decode cX0_faultOf 76 = .ok (.getfield 34, 3) := by decide +kernel
theorem dX0_faultOf_79 : decode cX0_faultOf 79 = .ok (.iconst 4, 1) := by decide +kernel
theorem dX0_faultOf_80 : decode cX0_faultOf 80 = .ok (.if_icmp .eq 7, 3) := by decide +kernel
theorem dX0_faultOf_83 : decode cX0_faultOf 83 = .ok (.aload_n 0, 1) := by decide +kernel
theorem dX0_faultOf_84 : decode cX0_faultOf 84 = .ok (.invokevirtual 60, 3) := by decide +kernel
theorem dX0_faultOf_87 : decode cX0_faultOf 87 = .ok (.aload_n 0, 1) := by decide +kernel
theorem dX0_faultOf_88 : decode cX0_faultOf 88 = .ok (.getfield 40, 3) := by decide +kernel
theorem dX0_faultOf_91 : decode cX0_faultOf 91 = .ok (.ireturn, 1) := by decide +kernel
theorem dX0_goOn_0 : decode cX0_goOn 0 = .ok (.aload_n 0, 1) := by decide +kernel
theorem dX0_goOn_1 : decode cX0_goOn 1 = .ok (.getfield 34, 3) := by decide +kernel
theorem dX0_goOn_4 : decode cX0_goOn 4 = .ok (.iconst 1, 1) := by decide +kernel
theorem dX0_goOn_5 : decode cX0_goOn 5 = .ok (.if_icmp .eq 11, 3) := by decide +kernel
theorem dX0_goOn_8 : decode cX0_goOn 8 = .ok (.aload_n 0, 1) := by decide +kernel
theorem dX0_goOn_9 : decode cX0_goOn 9 = .ok (.getfield 34, 3) := by decide +kernel
theorem dX0_goOn_12 : decode cX0_goOn 12 = .ok (.iconst 2, 1) := by decide +kernel
theorem dX0_goOn_13 : decode cX0_goOn 13 = .ok (.if_icmp .ne 7, 3) := by decide +kernel
theorem dX0_goOn_16 : decode cX0_goOn 16 = .ok (.iconst 1, 1) := by decide +kernel
theorem dX0_goOn_17 : decode cX0_goOn 17 = .ok (.goto 4, 3) := by decide +kernel
theorem dX0_goOn_20 : decode cX0_goOn 20 = .ok (.iconst 0, 1) := by decide +kernel
theorem dX0_goOn_21 : decode cX0_goOn 21 = .ok (.istore_n 1, 1) := by decide +kernel
theorem dX0_goOn_22 : decode cX0_goOn 22 = .ok (.aload_n 0, 1) := by decide +kernel
theorem dX0_goOn_23 : decode cX0_goOn 23 = .ok (.getfield 37, 3) := by decide +kernel
theorem dX0_goOn_26 : decode cX0_goOn 26 = .ok (.istore_n 2, 1) := by decide +kernel
theorem dX0_goOn_27 : decode cX0_goOn 27 = .ok (.aload_n 0, 1) := by decide +kernel
theorem dX0_goOn_28 : decode cX0_goOn 28 = .ok (.iload_n 2, 1) := by decide +kernel
theorem dX0_goOn_29 : decode cX0_goOn 29 = .ok (.putfield 53, 3) := by decide +kernel
theorem dX0_goOn_32 : decode cX0_goOn 32 = .ok (.aload_n 0, 1) := by decide +kernel
theorem dX0_goOn_33 : decode cX0_goOn 33 = .ok (.getfield 53, 3) := by decide +kernel
theorem dX0_goOn_36 : decode cX0_goOn 36 = .ok (.aload_n 0, 1) := by decide +kernel
theorem dX0_goOn_37 : decode cX0_goOn 37 = .ok (.getfield 24, 3) := by decide +kernel
theorem dX0_goOn_40 : decode cX0_goOn 40 = .ok (.if_icmp .ge 30, 3) := by decide +kernel
theorem dX0_goOn_43 : decode cX0_goOn 43 = .ok (.aload_n 0, 1) := by decide +kernel
theorem dX0_goOn_44 : decode cX0_goOn 44 = .ok (.getfield 15, 3) := by decide +kernel
theorem dX0_goOn_47 : decode cX0_goOn 47 = .ok (.aload_n 0, 1) := by decide +kernel
theorem dX0_goOn_48 : decode cX0_goOn 48 = .ok (.getfield 53, 3) := by decide +kernel
theorem dX0_goOn_51 : decode cX0_goOn 51 = .ok (.iaload, 1) := by decide +kernel
theorem dX0_goOn_52 : decode cX0_goOn 52 = .ok (.bipush 32, 2) := by decide +kernel
theorem dX0_goOn_54 : decode cX0_goOn 54 = .ok (.if_icmp .ne 16, 3) := by decide +kernel
theorem dX0_goOn_57 : decode cX0_goOn 57 = .ok (.aload_n 0, 1) := by decide +kernel
theorem dX0_goOn_58 : decode cX0_goOn 58 = .ok (.dup, 1) := by decide +kernel
theorem dX0_goOn_59 : decode cX0_goOn 59 = .ok (.getfield 53, 3) := by decide +kernel
theorem dX0_goOn_62 : decode cX0_goOn 62 = .ok (.iconst 1, 1) := by decide +kernel
theorem dX0_goOn_63 : decode cX0_goOn 63 = .ok (.iadd, 1) := by decide +kernel
theorem dX0_goOn_64 : decode cX0_goOn 64 = .ok (.putfield 53, 3) := by decide +kernel
theorem dX0_goOn_67 : decode cX0_goOn 67 = .ok (.goto (-35), 3) := by decide +kernel
theorem dX0_goOn_70 : decode cX0_goOn 70 = .ok (.aload_n 0, 1) := by decide +kernel
theorem dX0_goOn_71 : decode cX0_goOn 71 = .ok (.aload_n 0, 1) := by decide +kernel
theorem dX0_goOn_72 : decode cX0_goOn 72 = .ok (.getfield 53, 3) := by decide +kernel
theorem dX0_goOn_75 : decode cX0_goOn 75 = .ok (.aload_n 0, 1) := by decide +kernel
theorem dX0_goOn_76 : decode cX0_goOn 76 = .ok (.getfield 24, 3) := by decide +kernel
theorem dX0_goOn_79 : decode cX0_goOn 79 = .ok (.if_icmp .ge 18, 3) := by decide +kernel
theorem dX0_goOn_82 : decode cX0_goOn 82 = .ok (.aload_n 0, 1) := by decide +kernel
theorem dX0_goOn_83 : decode cX0_goOn 83 = .ok (.getfield 15, 3) := by decide +kernel
theorem dX0_goOn_86 : decode cX0_goOn 86 = .ok (.aload_n 0, 1) := by decide +kernel
theorem dX0_goOn_87 : decode cX0_goOn 87 = .ok (.getfield 53, 3) := by decide +kernel
theorem dX0_goOn_90 : decode cX0_goOn 90 = .ok (.iaload, 1) := by decide +kernel
theorem dX0_goOn_91 : decode cX0_goOn 91 = .ok (.invokestatic 63, 3) := by decide +kernel
theorem dX0_goOn_94 : decode cX0_goOn 94 = .ok (.goto 4, 3) := by decide +kernel
theorem dX0_goOn_97 : decode cX0_goOn 97 = .ok (.iconst 4, 1) := by decide +kernel
theorem dX0_goOn_98 : decode cX0_goOn 98 = .ok (.putfield 34, 3) := by decide +kernel
theorem dX0_goOn_101 : decode cX0_goOn 101 = .ok (.aload_n 0, 1) := by decide +kernel
theorem dX0_goOn_102 : decode cX0_goOn 102 = .ok (.aload_n 0, 1) := by decide +kernel
theorem dX0_goOn_103 : decode cX0_goOn 103 = .ok (.getfield 53, 3) := by decide +kernel
theorem dX0_goOn_106 : decode cX0_goOn 106 = .ok (.iconst 1, 1) := by decide +kernel
theorem dX0_goOn_107 : decode cX0_goOn 107 = .ok (.iadd, 1) := by decide +kernel
theorem dX0_goOn_108 : decode cX0_goOn 108 = .ok (.putfield 37, 3) := by decide +kernel
theorem dX0_goOn_111 : decode cX0_goOn 111 = .ok (.aload_n 0, 1) := by decide +kernel
theorem dX0_goOn_112 : decode cX0_goOn 112 = .ok (.getfield 34, 3) := by decide +kernel
theorem dX0_goOn_115 : decode cX0_goOn 115 = .ok (.iconst 1, 1) := by decide +kernel
theorem dX0_goOn_116 : decode cX0_goOn 116 = .ok (.if_icmp .eq 11, 3) := by decide +kernel
theorem dX0_goOn_119 : decode cX0_goOn 119 = .ok (.aload_n 0, 1) := by decide +kernel
theorem dX0_goOn_120 : decode cX0_goOn 120 = .ok (.getfield 34, 3) := by decide +kernel
theorem dX0_goOn_123 : decode cX0_goOn 123 = .ok (.iconst 2, 1) := by decide +kernel
theorem dX0_goOn_124 : decode cX0_goOn 124 = .ok (.if_icmp .ne 63, 3) := by decide +kernel
theorem dX0_goOn_127 : decode cX0_goOn 127 = .ok (.aload_n 0, 1) := by decide +kernel
theorem dX0_goOn_128 : decode cX0_goOn 128 = .ok (.getfield 37, 3) := by decide +kernel
theorem dX0_goOn_131 : decode cX0_goOn 131 = .ok (.aload_n 0, 1) := by decide +kernel
theorem dX0_goOn_132 : decode cX0_goOn 132 = .ok (.getfield 24, 3) := by decide +kernel
theorem dX0_goOn_135 : decode cX0_goOn 135 = .ok (.if_icmp .ge 35, 3) := by decide +kernel
theorem dX0_goOn_138 : decode cX0_goOn 138 = .ok (.aload_n 0, 1) := by decide +kernel
theorem dX0_goOn_139 : decode cX0_goOn 139 = .ok (.getfield 15, 3) := by decide +kernel
theorem dX0_goOn_142 : decode cX0_goOn 142 = .ok (.aload_n 0, 1) := by decide +kernel
theorem dX0_goOn_143 : decode cX0_goOn 143 = .ok (.getfield 37, 3) := by decide +kernel
theorem dX0_goOn_146 : decode cX0_goOn 146 = .ok (.iaload, 1) := by decide +kernel
theorem dX0_goOn_147 : decode cX0_goOn 147 = .ok (.invokestatic 63, 3) := by decide +kernel
theorem dX0_goOn_150 : decode cX0_goOn 150 = .ok (.aload_n 0, 1) := by decide +kernel
theorem dX0_goOn_151 : decode cX0_goOn 151 = .ok (.getfield 34, 3) := by decide +kernel
theorem dX0_goOn_154 : decode cX0_goOn 154 = .ok (.if_icmp .ne 16, 3) := by decide +kernel
theorem dX0_goOn_157 : decode cX0_goOn 157 = .ok (.aload_n 0, 1) := by decide +kernel
theorem dX0_goOn_158 : decode cX0_goOn 158 = .ok (.dup, 1) := by decide +kernel
theorem dX0_goOn_159 : decode cX0_goOn 159 = .ok (.getfield 37, 3) := by decide +kernel
theorem dX0_goOn_162 : decode cX0_goOn 162 = .ok (.iconst 1, 1) := by decide +kernel
theorem dX0_goOn_163 : decode cX0_goOn 163 = .ok (.iadd, 1) := by decide +kernel
theorem dX0_goOn_164 : decode cX0_goOn 164 = .ok (.putfield 37, 3) := by decide +kernel
theorem dX0_goOn_167 : decode cX0_goOn 167 = .ok (.goto (-40), 3) := by decide +kernel
theorem dX0_goOn_170 : decode cX0_goOn 170 = .ok (.iload_n 1, 1) := by decide +kernel
theorem dX0_goOn_171 : decode cX0_goOn 171 = .ok (.ifCond .eq 16, 3) := by decide +kernel
theorem dX0_goOn_174 : decode cX0_goOn 174 = .ok (.aload_n 0, 1) := by decide +kernel
theorem dX0_goOn_175 : decode cX0_goOn 175 = .ok (.getfield 53, 3) := by decide +kernel
theorem dX0_goOn_178 : decode cX0_goOn 178 = .ok (.iload_n 2, 1) := by decide +kernel
theorem dX0_goOn_179 : decode cX0_goOn 179 = .ok (.if_icmp .ne 8, 3) := by decide +kernel
theorem dX0_goOn_182 : decode cX0_goOn 182 = .ok (.aload_n 0, 1) := by decide +kernel
theorem dX0_goOn_183 : decode cX0_goOn 183 = .ok (.iconst 3, 1) := by decide +kernel
theorem dX0_goOn_184 : decode cX0_goOn 184 = .ok (.putfield 34, 3) := by decide +kernel
theorem dX0_goOn_187 : decode cX0_goOn 187 = .ok (.return_, 1) := by decide +kernel
theorem dX0_sortOf_0 : decode cX0_sortOf 0 = .ok (.iload_n 0, 1) := by decide +kernel
theorem dX0_sortOf_1 : decode cX0_sortOf 1 = .ok (.bipush 97, 2) := by decide +kernel
theorem dX0_sortOf_3 : decode cX0_sortOf 3 = .ok (.if_icmp .lt 11, 3) := by decide +kernel
theorem dX0_sortOf_6 : decode cX0_sortOf 6 = .ok (.iload_n 0, 1) := by decide +kernel
theorem dX0_sortOf_7 : decode cX0_sortOf 7 = .ok (.bipush 122, 2) := by decide +kernel
theorem dX0_sortOf_9 : decode cX0_sortOf 9 = .ok (.if_icmp .gt 5, 3) := by decide +kernel
theorem dX0_sortOf_12 : decode cX0_sortOf 12 = .ok (.iconst 1, 1) := by decide +kernel
theorem dX0_sortOf_13 : decode cX0_sortOf 13 = .ok (.ireturn, 1) := by decide +kernel
theorem dX0_sortOf_14 : decode cX0_sortOf 14 = .ok (.iload_n 0, 1) := by decide +kernel
theorem dX0_sortOf_15 : decode cX0_sortOf 15 = .ok (.bipush 48, 2) := by decide +kernel
theorem dX0_sortOf_17 : decode cX0_sortOf 17 = .ok (.if_icmp .lt 13, 3) := by decide +kernel
theorem dX0_sortOf_20 : decode cX0_sortOf 20 = .ok (.iload_n 0, 1) := by decide +kernel
theorem dX0_sortOf_21 : decode cX0_sortOf 21 = .ok (.bipush 57, 2) := by decide +kernel
theorem dX0_sortOf_23 : decode cX0_sortOf 23 = .ok (.if_icmp .gt 7, 3) := by decide +kernel
theorem dX0_sortOf_26 : decode cX0_sortOf 26 = .ok (.iconst 2, 1) := by decide +kernel
theorem dX0_sortOf_27 : decode cX0_sortOf 27 = .ok (.goto 4, 3) := by decide +kernel
theorem dX0_sortOf_30 : decode cX0_sortOf 30 = .ok (.iconst 0, 1) := by decide +kernel
theorem dX0_sortOf_31 : decode cX0_sortOf 31 = .ok (.ireturn, 1) := by decide +kernel
theorem dX0_stop_0 : decode cX0_stop 0 = .ok (.aload_n 0, 1) := by decide +kernel
theorem dX0_stop_1 : decode cX0_stop 1 = .ok (.getfield 40, 3) := by decide +kernel
theorem dX0_stop_4 : decode cX0_stop 4 = .ok (.ifCond .ge 11, 3) := by decide +kernel
theorem dX0_stop_7 : decode cX0_stop 7 = .ok (.aload_n 0, 1) := by decide +kernel
theorem dX0_stop_8 : decode cX0_stop 8 = .ok (.aload_n 0, 1) := by decide +kernel
theorem dX0_stop_9 : decode cX0_stop 9 = .ok (.getfield 53, 3) := by decide +kernel
theorem dX0_stop_12 : decode cX0_stop 12 = .ok (.putfield 40, 3) := by decide +kernel
theorem dX0_stop_15 : decode cX0_stop 15 = .ok (.return_, 1) := by decide +kernel
theorem dX0_isSign_0 : decode cX0_isSign 0 = .ok (.aload_n 0, 1) := by decide +kernel
theorem dX0_isSign_1 : decode cX0_isSign 1 = .ok (.getfield 40, 3) := by decide +kernel
theorem dX0_isSign_4 : decode cX0_isSign 4 = .ok (.ifCond .ge 38, 3) := by decide +kernel
theorem dX0_isSign_7 : decode cX0_isSign 7 = .ok (.aload_n 0, 1) := by decide +kernel
theorem dX0_isSign_8 : decode cX0_isSign 8 = .ok (.getfield 34, 3) := by decide +kernel
theorem dX0_isSign_11 : decode cX0_isSign 11 = .ok (.ifCond .ne 31, 3) := by decide +kernel
theorem dX0_isSign_14 : decode cX0_isSign 14 = .ok (.aload_n 0, 1) := by decide +kernel
theorem dX0_isSign_15 : decode cX0_isSign 15 = .ok (.getfield 53, 3) := by decide +kernel
theorem dX0_isSign_18 : decode cX0_isSign 18 = .ok (.aload_n 0, 1) := by decide +kernel
theorem dX0_isSign_19 : decode cX0_isSign 19 = .ok (.getfield 24, 3) := by decide +kernel
theorem dX0_isSign_22 : decode cX0_isSign 22 = .ok (.if_icmp .ge 20, 3) := by decide +kernel
theorem dX0_isSign_25 : decode cX0_isSign 25 = .ok (.aload_n 0, 1) := by decide +kernel
theorem dX0_isSign_26 : decode cX0_isSign 26 = .ok (.getfield 15, 3) := by decide +kernel
theorem dX0_isSign_29 : decode cX0_isSign 29 = .ok (.aload_n 0, 1) := by decide +kernel
theorem dX0_isSign_30 : decode cX0_isSign 30 = .ok (.getfield 53, 3) := by decide +kernel
theorem dX0_isSign_33 : decode cX0_isSign 33 = .ok (.iaload, 1) := by decide +kernel
theorem dX0_isSign_34 : decode cX0_isSign 34 = .ok (.iload_n 1, 1) := by decide +kernel
theorem dX0_isSign_35 : decode cX0_isSign 35 = .ok (.if_icmp .ne 7, 3) := by decide +kernel
theorem dX0_isSign_38 : decode cX0_isSign 38 = .ok (.iconst 1, 1) := by decide +kernel
theorem dX0_isSign_39 : decode cX0_isSign 39 = .ok (.goto 4, 3) := by decide +kernel
theorem dX0_isSign_42 : decode cX0_isSign 42 = .ok (.iconst 0, 1) := by decide +kernel
theorem dX0_isSign_43 : decode cX0_isSign 43 = .ok (.ireturn, 1) := by decide +kernel
theorem dX0_isWord_0 : decode cX0_isWord 0 = .ok (.aload_n 0, 1) := by decide +kernel
theorem dX0_isWord_1 : decode cX0_isWord 1 = .ok (.getfield 34, 3) := by decide +kernel
theorem dX0_isWord_4 : decode cX0_isWord 4 = .ok (.iconst 1, 1) := by decide +kernel
theorem dX0_isWord_5 : decode cX0_isWord 5 = .ok (.if_icmp .ne 34, 3) := by decide +kernel
theorem dX0_isWord_8 : decode cX0_isWord 8 = .ok (.aload_n 0, 1) := by decide +kernel
theorem dX0_isWord_9 : decode cX0_isWord 9 = .ok (.getfield 37, 3) := by decide +kernel
theorem dX0_isWord_12 : decode cX0_isWord 12 = .ok (.aload_n 0, 1) := by decide +kernel
theorem dX0_isWord_13 : decode cX0_isWord 13 = .ok (.getfield 53, 3) := by decide +kernel
theorem dX0_isWord_16 : decode cX0_isWord 16 = .ok (.isub, 1) := by decide +kernel
theorem dX0_isWord_17 : decode cX0_isWord 17 = .ok (.aload_n 1, 1) := by decide +kernel
theorem dX0_isWord_18 : decode cX0_isWord 18 = .ok (.invokevirtual 67, 3) := by decide +kernel
theorem dX0_isWord_21 : decode cX0_isWord 21 = .ok (.if_icmp .ne 18, 3) := by decide +kernel
theorem dX0_isWord_24 : decode cX0_isWord 24 = .ok (.aload_n 0, 1) := by decide +kernel
theorem dX0_isWord_25 : decode cX0_isWord 25 = .ok (.getfield 37, 3) := by decide +kernel
theorem dX0_isWord_28 : decode cX0_isWord 28 = .ok (.aload_n 0, 1) := by decide +kernel
theorem dX0_isWord_29 : decode cX0_isWord 29 = .ok (.getfield 24, 3) := by decide +kernel
theorem dX0_isWord_32 : decode cX0_isWord 32 = .ok (.if_icmp .gt 7, 3) := by decide +kernel
theorem dX0_isWord_35 : decode cX0_isWord 35 = .ok (.iconst 1, 1) := by decide +kernel
theorem dX0_isWord_36 : decode cX0_isWord 36 = .ok (.goto 4, 3) := by decide +kernel
theorem dX0_isWord_39 : decode cX0_isWord 39 = .ok (.iconst 0, 1) := by decide +kernel
theorem dX0_isWord_40 : decode cX0_isWord 40 = .ok (.istore_n 2, 1) := by decide +kernel
theorem dX0_isWord_41 : decode cX0_isWord 41 = .ok (.iconst 0, 1) := by decide +kernel
theorem dX0_isWord_42 : decode cX0_isWord 42 = .ok (.istore_n 3, 1) := by decide +kernel
theorem dX0_isWord_43 : decode cX0_isWord 43 = .ok (.iload_n 2, 1) := by decide +kernel
theorem dX0_isWord_44 : decode cX0_isWord 44 = .ok (.ifCond .eq 42, 3) := by decide +kernel
theorem dX0_isWord_47 : decode cX0_isWord 47 = .ok (.iload_n 3, 1) := by decide +kernel
theorem dX0_isWord_48 : decode cX0_isWord 48 = .ok (.aload_n 1, 1) := by decide +kernel
theorem dX0_isWord_49 : decode cX0_isWord 49 = .ok (.invokevirtual 67, 3) := by decide +kernel
theorem dX0_isWord_52 : decode cX0_isWord 52 = .ok (.if_icmp .ge 34, 3) := by decide +kernel
theorem dX0_isWord_55 : decode cX0_isWord 55 = .ok (.aload_n 0, 1) := by decide +kernel
theorem dX0_isWord_56 : decode cX0_isWord 56 = .ok (.getfield 15, 3) := by decide +kernel
theorem dX0_isWord_59 : decode cX0_isWord 59 = .ok (.aload_n 0, 1) := by decide +kernel
theorem dX0_isWord_60 : decode cX0_isWord 60 = .ok (.getfield 53, 3) := by decide +kernel
theorem dX0_isWord_63 : decode cX0_isWord 63 = .ok (.iload_n 3, 1) := by decide +kernel
theorem dX0_isWord_64 : decode cX0_isWord 64 = .ok (.iadd, 1) := by decide +kernel
theorem dX0_isWord_65 : decode cX0_isWord 65 = .ok (.iaload, 1) := by decide +kernel
theorem dX0_isWord_66 : decode cX0_isWord 66 = .ok (.aload_n 1, 1) := by decide +kernel
theorem dX0_isWord_67 : decode cX0_isWord 67 = .ok (.iload_n 3, 1) := by decide +kernel
theorem dX0_isWord_68 : decode cX0_isWord 68 = .ok (.invokevirtual 71, 3) := by decide +kernel
theorem dX0_isWord_71 : decode cX0_isWord 71 = .ok (.if_icmp .ne 7, 3) := by decide +kernel
theorem dX0_isWord_74 : decode cX0_isWord 74 = .ok (.iconst 1, 1) := by decide +kernel
theorem dX0_isWord_75 : decode cX0_isWord 75 = .ok (.goto 4, 3) := by decide +kernel
theorem dX0_isWord_78 : decode cX0_isWord 78 = .ok (.iconst 0, 1) := by decide +kernel
theorem dX0_isWord_79 : decode cX0_isWord 79 = .ok (.istore_n 2, 1) := by decide +kernel
theorem dX0_isWord_80 : decode cX0_isWord 80 = .ok (.iinc 3 1, 3) := by decide +kernel
theorem dX0_isWord_83 : decode cX0_isWord 83 = .ok (.goto (-40), 3) := by decide +kernel
theorem dX0_isWord_86 : decode cX0_isWord 86 = .ok (.iload_n 2, 1) := by decide +kernel
theorem dX0_isWord_87 : decode cX0_isWord 87 = .ok (.ireturn, 1) := by decide +kernel
theorem dX0_keyRead_0 : decode cX0_keyRead 0 = .ok (.aload_n 0, 1) := by decide +kernel
theorem dX0_keyRead_1 : decode cX0_keyRead 1 = .ok (.ldc 75, 2) := by decide +kernel
theorem dX0_keyRead_3 : decode cX0_keyRead 3 = .ok (.invokevirtual 77, 3) := by decide +kernel
theorem dX0_keyRead_6 : decode cX0_keyRead 6 = .ok (.ifCond .eq 5, 3) := by decide +kernel
theorem dX0_keyRead_9 : decode cX0_keyRead 9 = .ok (.iconst 0, 1) := by decide +kernel
theorem dX0_keyRead_10 : decode cX0_keyRead 10 = .ok (.ireturn, 1) := by decide +kernel
theorem dX0_keyRead_11 : decode cX0_keyRead 11 = .ok (.aload_n 0, 1) := by decide +kernel
theorem dX0_keyRead_12 : decode cX0_keyRead 12 = .ok (.ldc 81, 2) := by decide +kernel
theorem dX0_keyRead_14 : decode cX0_keyRead 14 = .ok (.invokevirtual 77, 3) := by decide +kernel
theorem dX0_keyRead_17 : decode cX0_keyRead 17 = .ok (.ifCond .eq 5, 3) := by decide +kernel
theorem dX0_keyRead_20 : decode cX0_keyRead 20 = .ok (.iconst 1, 1) := by decide +kernel
theorem dX0_keyRead_21 : decode cX0_keyRead 21 = .ok (.ireturn, 1) := by decide +kernel
theorem dX0_keyRead_22 : decode cX0_keyRead 22 = .ok (.aload_n 0, 1) := by decide +kernel
theorem dX0_keyRead_23 : decode cX0_keyRead 23 = .ok (.ldc 83, 2) := by decide +kernel
theorem dX0_keyRead_25 : decode cX0_keyRead 25 = .ok (.invokevirtual 77, 3) := by decide +kernel
theorem dX0_keyRead_28 : decode cX0_keyRead 28 = .ok (.ifCond .eq 7, 3) := by decide +kernel
theorem dX0_keyRead_31 : decode cX0_keyRead 31 = .ok (.iconst 2, 1) := by decide +kernel
theorem dX0_keyRead_32 : decode cX0_keyRead 32 = .ok (.goto 4, 3) := by decide +kernel
theorem dX0_keyRead_35 : decode cX0_keyRead 35 = .ok (.iconst (-1), 1) := by decide +kernel
theorem dX0_keyRead_36 : decode cX0_keyRead 36 = .ok (.ireturn, 1) := by decide +kernel
theorem dX0_nameRead_0 : decode cX0_nameRead 0 = .ok (.aload_n 0, 1) := by decide +kernel
theorem dX0_nameRead_1 : decode cX0_nameRead 1 = .ok (.getfield 34, 3) := by decide +kernel
theorem dX0_nameRead_4 : decode cX0_nameRead 4 = .ok (.iconst 1, 1) := by decide +kernel
theorem dX0_nameRead_5 : decode cX0_nameRead 5 = .ok (.if_icmp .ne 27, 3) := by decide +kernel
theorem dX0_nameRead_8 : decode cX0_nameRead 8 = .ok (.aload_n 0, 1) := by decide +kernel
theorem dX0_nameRead_9 : decode cX0_nameRead 9 = .ok (.getfield 37, 3) := by decide +kernel
theorem dX0_nameRead_12 : decode cX0_nameRead 12 = .ok (.aload_n 0, 1) := by decide +kernel
theorem dX0_nameRead_13 : decode cX0_nameRead 13 = .ok (.getfield 53, 3) := by decide +kernel
theorem dX0_nameRead_16 : decode cX0_nameRead 16 = .ok (.isub, 1) := by decide +kernel
theorem dX0_nameRead_17 : decode cX0_nameRead 17 = .ok (.iconst 1, 1) := by decide +kernel
theorem dX0_nameRead_18 : decode cX0_nameRead 18 = .ok (.if_icmp .ne 14, 3) := by decide +kernel
theorem dX0_nameRead_21 : decode cX0_nameRead 21 = .ok (.aload_n 0, 1) := by decide +kernel
theorem dX0_nameRead_22 : decode cX0_nameRead 22 = .ok (.getfield 53, 3) := by decide +kernel
theorem dX0_nameRead_25 : decode cX0_nameRead 25 = .ok (.aload_n 0, 1) := by decide +kernel
theorem dX0_nameRead_26 : decode cX0_nameRead 26 = .ok (.getfield 24, 3) := by decide +kernel
theorem dX0_nameRead_29 : decode cX0_nameRead 29 = .ok (.if_icmp .lt 5, 3) := by decide +kernel
theorem dX0_nameRead_32 : decode cX0_nameRead 32 = .ok (.iconst (-1), 1) := by decide +kernel
theorem dX0_nameRead_33 : decode cX0_nameRead 33 = .ok (.ireturn, 1) := by decide +kernel
theorem dX0_nameRead_34 : decode cX0_nameRead 34 = .ok (.aload_n 0, 1) := by decide +kernel
theorem dX0_nameRead_35 : decode cX0_nameRead 35 = .ok (.getfield 50, 3) := by decide +kernel
theorem dX0_nameRead_38 : decode cX0_nameRead 38 = .ok (.ifCond .ne 8, 3) := by decide +kernel
theorem dX0_nameRead_41 : decode cX0_nameRead 41 = .ok (.ldc 85, 2) := by decide +kernel
theorem dX0_nameRead_43 : decode cX0_nameRead 43 = .ok (.goto 18, 3) := by decide +kernel
theorem dX0_nameRead_46 : decode cX0_nameRead 46 = .ok (.aload_n 0, 1) := by decide +kernel
theorem dX0_nameRead_47 : decode cX0_nameRead 47 = .ok (.getfield 50, 3) := by decide +kernel
theorem dX0_nameRead_50 : decode cX0_nameRead 50 = .ok (.iconst 1, 1) := by decide +kernel
theorem dX0_nameRead_51 : decode cX0_nameRead 51 = .ok (.if_icmp .ne 8, 3) := by decide +kernel
theorem dX0_nameRead_54 : decode cX0_nameRead 54 = .ok (.ldc 87, 2) := by decide +kernel
theorem dX0_nameRead_56 : decode cX0_nameRead 56 = .ok (.goto 5, 3) := by decide +kernel
theorem dX0_nameRead_59 : decode cX0_nameRead 59 = .ok (.ldc 89, 2) := by decide +kernel
theorem dX0_nameRead_61 : decode cX0_nameRead 61 = .ok (.astore_n 1, 1) := by decide +kernel
theorem dX0_nameRead_62 : decode cX0_nameRead 62 = .ok (.aload_n 1, 1) := by decide +kernel
theorem dX0_nameRead_63 : decode cX0_nameRead 63 = .ok (.aload_n 0, 1) := by decide +kernel
theorem dX0_nameRead_64 : decode cX0_nameRead 64 = .ok (.getfield 15, 3) := by decide +kernel
theorem dX0_nameRead_67 : decode cX0_nameRead 67 = .ok (.aload_n 0, 1) := by decide +kernel
theorem dX0_nameRead_68 : decode cX0_nameRead 68 = .ok (.getfield 53, 3) := by decide +kernel
theorem dX0_nameRead_71 : decode cX0_nameRead 71 = .ok (.iaload, 1) := by decide +kernel
theorem dX0_nameRead_72 : decode cX0_nameRead 72 = .ok (.i2c, 1) := by decide +kernel
theorem dX0_nameRead_73 : decode cX0_nameRead 73 = .ok (.invokevirtual 91, 3) := by decide +kernel
theorem dX0_nameRead_76 : decode cX0_nameRead 76 = .ok (.ireturn, 1) := by decide +kernel
theorem dX0_numberRead_0 : decode cX0_numberRead 0 = .ok (.iconst 0, 1) := by decide +kernel
theorem dX0_numberRead_1 : decode cX0_numberRead 1 = .ok (.istore_n 1, 1) := by decide +kernel
theorem dX0_numberRead_2 : decode cX0_numberRead 2 = .ok (.aload_n 0, 1) := by decide +kernel
theorem dX0_numberRead_3 : decode cX0_numberRead 3 = .ok (.getfield 53, 3) := by decide +kernel
theorem dX0_numberRead_6 : decode cX0_numberRead 6 = .ok (.istore_n 2, 1) := by decide +kernel
theorem dX0_numberRead_7 : decode cX0_numberRead 7 = .ok (.iload_n 2, 1) := by decide +kernel
theorem dX0_numberRead_8 : decode cX0_numberRead 8 = .ok (.aload_n 0, 1) := by decide +kernel
theorem dX0_numberRead_9 : decode cX0_numberRead 9 = .ok (.getfield 37, 3) := by decide +kernel
theorem dX0_numberRead_12 : decode cX0_numberRead 12 = .ok (.if_icmp .ge 32, 3) := by decide +kernel
theorem dX0_numberRead_15 : decode cX0_numberRead 15 = .ok (.iload_n 2, 1) := by decide +kernel
theorem dX0_numberRead_16 : decode cX0_numberRead 16 = .ok (.aload_n 0, 1) := by decide +kernel
theorem dX0_numberRead_17 : decode cX0_numberRead 17 = .ok (.getfield 24, 3) := by decide +kernel
theorem dX0_numberRead_20 : decode cX0_numberRead 20 = .ok (.if_icmp .ge 24, 3) := by decide +kernel
theorem dX0_numberRead_23 : decode cX0_numberRead 23 = .ok (.iload_n 1, 1) := by decide +kernel
theorem dX0_numberRead_24 : decode cX0_numberRead 24 = .ok (.bipush 10, 2) := by decide +kernel
theorem dX0_numberRead_26 : decode cX0_numberRead 26 = .ok (.imul, 1) := by decide +kernel
theorem dX0_numberRead_27 : decode cX0_numberRead 27 = .ok (.aload_n 0, 1) := by decide +kernel
theorem dX0_numberRead_28 : decode cX0_numberRead 28 = .ok (.getfield 15, 3) := by decide +kernel
theorem dX0_numberRead_31 : decode cX0_numberRead 31 = .ok (.iload_n 2, 1) := by decide +kernel
theorem dX0_numberRead_32 : decode cX0_numberRead 32 = .ok (.iaload, 1) := by decide +kernel
theorem dX0_numberRead_33 : decode cX0_numberRead 33 = .ok (.iadd, 1) := by decide +kernel
theorem dX0_numberRead_34 : decode cX0_numberRead 34 = .ok (.bipush 48, 2) := by decide +kernel
theorem dX0_numberRead_36 : decode cX0_numberRead 36 = .ok (.isub, 1) := by decide +kernel
theorem dX0_numberRead_37 : decode cX0_numberRead 37 = .ok (.istore_n 1, 1) := by decide +kernel
theorem dX0_numberRead_38 : decode cX0_numberRead 38 = .ok (.iinc 2 1, 3) := by decide +kernel
theorem dX0_numberRead_41 : decode cX0_numberRead 41 = .ok (.goto (-34), 3) := by decide +kernel
theorem dX0_numberRead_44 : decode cX0_numberRead 44 = .ok (.iload_n 1, 1) := by decide +kernel
theorem dX0_numberRead_45 : decode cX0_numberRead 45 = .ok (.ireturn, 1) := by decide +kernel
theorem dX0_put_0 : decode cX0_put 0 = .ok (.aload_n 0, 1) := by decide +kernel
theorem dX0_put_1 : decode cX0_put 1 = .ok (.getfield 28, 3) := by decide +kernel
theorem dX0_put_4 : decode cX0_put 4 = .ok (.bipush 96, 2) := by decide +kernel
theorem dX0_put_6 : decode cX0_put 6 = .ok (.if_icmp .ge 23, 3) := by decide +kernel
theorem dX0_put_9 : decode cX0_put 9 = .ok (.aload_n 0, 1) := by decide +kernel
theorem dX0_put_10 : decode cX0_put 10 = .ok (.getfield 9, 3) := by decide +kernel
theorem dX0_put_13 : decode cX0_put 13 = .ok (.aload_n 0, 1) := by decide +kernel
theorem dX0_put_14 : decode cX0_put 14 = .ok (.getfield 28, 3) := by decide +kernel
theorem dX0_put_17 : decode cX0_put 17 = .ok (.iload_n 1, 1) := by decide +kernel
theorem dX0_put_18 : decode cX0_put 18 = .ok (.iastore, 1) := by decide +kernel
theorem dX0_put_19 : decode cX0_put 19 = .ok (.aload_n 0, 1) := by decide +kernel
theorem dX0_put_20 : decode cX0_put 20 = .ok (.dup, 1) := by decide +kernel
theorem dX0_put_21 : decode cX0_put 21 = .ok (.getfield 28, 3) := by decide +kernel
theorem dX0_put_24 : decode cX0_put 24 = .ok (.iconst 1, 1) := by decide +kernel
theorem dX0_put_25 : decode cX0_put 25 = .ok (.iadd, 1) := by decide +kernel
theorem dX0_put_26 : decode cX0_put 26 = .ok (.putfield 28, 3) := by decide +kernel
theorem dX0_put_29 : decode cX0_put 29 = .ok (.return_, 1) := by decide +kernel
theorem dX0_putLeaf_0 : decode cX0_putLeaf 0 = .ok (.aload_n 0, 1) := by decide +kernel
theorem dX0_putLeaf_1 : decode cX0_putLeaf 1 = .ok (.iload_n 1, 1) := by decide +kernel
theorem dX0_putLeaf_2 : decode cX0_putLeaf 2 = .ok (.invokevirtual 94, 3) := by decide +kernel
theorem dX0_putLeaf_5 : decode cX0_putLeaf 5 = .ok (.aload_n 0, 1) := by decide +kernel
theorem dX0_putLeaf_6 : decode cX0_putLeaf 6 = .ok (.dup, 1) := by decide +kernel
theorem dX0_putLeaf_7 : decode cX0_putLeaf 7 = .ok (.getfield 31, 3) := by decide +kernel
theorem dX0_putLeaf_10 : decode cX0_putLeaf 10 = .ok (.iconst 1, 1) := by decide +kernel
theorem dX0_putLeaf_11 : decode cX0_putLeaf 11 = .ok (.iadd, 1) := by decide +kernel
theorem dX0_putLeaf_12 : decode cX0_putLeaf 12 = .ok (.putfield 31, 3) := by decide +kernel
theorem dX0_putLeaf_15 : decode cX0_putLeaf 15 = .ok (.aload_n 0, 1) := by decide +kernel
theorem dX0_putLeaf_16 : decode cX0_putLeaf 16 = .ok (.invokevirtual 43, 3) := by decide +kernel
theorem dX0_putLeaf_19 : decode cX0_putLeaf 19 = .ok (.return_, 1) := by decide +kernel
theorem dX0_signsOf_0 : decode cX0_signsOf 0 = .ok (.iload_n 0, 1) := by decide +kernel
theorem dX0_signsOf_1 : decode cX0_signsOf 1 = .ok (.tableswitch 50 0 4 #[35, 38, 41, 44, 47], 35) := by decide +kernel
theorem dX0_signsOf_36 : decode cX0_signsOf 36 = .ok (.ldc 98, 2) := by decide +kernel
theorem dX0_signsOf_38 : decode cX0_signsOf 38 = .ok (.areturn, 1) := by decide +kernel
theorem dX0_signsOf_39 : decode cX0_signsOf 39 = .ok (.ldc 100, 2) := by decide +kernel
theorem dX0_signsOf_41 : decode cX0_signsOf 41 = .ok (.areturn, 1) := by decide +kernel
theorem dX0_signsOf_42 : decode cX0_signsOf 42 = .ok (.ldc 102, 2) := by decide +kernel
theorem dX0_signsOf_44 : decode cX0_signsOf 44 = .ok (.areturn, 1) := by decide +kernel
theorem dX0_signsOf_45 : decode cX0_signsOf 45 = .ok (.ldc 104, 2) := by decide +kernel
theorem dX0_signsOf_47 : decode cX0_signsOf 47 = .ok (.areturn, 1) := by decide +kernel
theorem dX0_signsOf_48 : decode cX0_signsOf 48 = .ok (.ldc 106, 2) := by decide +kernel
theorem dX0_signsOf_50 : decode cX0_signsOf 50 = .ok (.areturn, 1) := by decide +kernel
theorem dX0_signsOf_51 : decode cX0_signsOf 51 = .ok (.ldc 108, 2) := by decide +kernel
theorem dX0_signsOf_53 : decode cX0_signsOf 53 = .ok (.areturn, 1) := by decide +kernel
theorem dX0_isSignOf_0 : decode cX0_isSignOf 0 = .ok (.aload_n 0, 1) := by decide +kernel
theorem dX0_isSignOf_1 : decode cX0_isSignOf 1 = .ok (.getfield 40, 3) := by decide +kernel
theorem dX0_isSignOf_4 : decode cX0_isSignOf 4 = .ok (.ifCond .ge 45, 3) := by decide +kernel
theorem dX0_isSignOf_7 : decode cX0_isSignOf 7 = .ok (.aload_n 0, 1) := by decide +kernel
theorem dX0_isSignOf_8 : decode cX0_isSignOf 8 = .ok (.getfield 34, 3) := by decide +kernel
theorem dX0_isSignOf_11 : decode cX0_isSignOf 11 = .ok (.ifCond .ne 38, 3) := by decide +kernel
theorem dX0_isSignOf_14 : decode cX0_isSignOf 14 = .ok (.aload_n 0, 1) := by decide +kernel
theorem dX0_isSignOf_15 : decode cX0_isSignOf 15 = .ok (.getfield 53, 3) := by decide +kernel
theorem dX0_isSignOf_18 : decode cX0_isSignOf 18 = .ok (.aload_n 0, 1) := by decide +kernel
theorem dX0_isSignOf_19 : decode cX0_isSignOf 19 = .ok (.getfield 24, 3) := by decide +kernel
theorem dX0_isSignOf_22 : decode cX0_isSignOf 22 = .ok (.if_icmp .ge 27, 3) := by decide +kernel
theorem dX0_isSignOf_25 : decode cX0_isSignOf 25 = .ok (.iload_n 1, 1) := by decide +kernel
theorem dX0_isSignOf_26 : decode cX0_isSignOf 26 = .ok (.invokestatic 110, 3) := by decide +kernel
theorem dX0_isSignOf_29 : decode cX0_isSignOf 29 = .ok (.aload_n 0, 1) := by decide +kernel
theorem dX0_isSignOf_30 : decode cX0_isSignOf 30 = .ok (.getfield 15, 3) := by decide +kernel
theorem dX0_isSignOf_33 : decode cX0_isSignOf 33 = .ok (.aload_n 0, 1) := by decide +kernel
theorem dX0_isSignOf_34 : decode cX0_isSignOf 34 = .ok (.getfield 53, 3) := by decide +kernel
theorem dX0_isSignOf_37 : decode cX0_isSignOf 37 = .ok (.iaload, 1) := by decide +kernel
theorem dX0_isSignOf_38 : decode cX0_isSignOf 38 = .ok (.i2c, 1) := by decide +kernel
theorem dX0_isSignOf_39 : decode cX0_isSignOf 39 = .ok (.invokevirtual 91, 3) := by decide +kernel
theorem dX0_isSignOf_42 : decode cX0_isSignOf 42 = .ok (.ifCond .lt 7, 3) := by decide +kernel
theorem dX0_isSignOf_45 : decode cX0_isSignOf 45 = .ok (.iconst 1, 1) := by decide +kernel
theorem dX0_isSignOf_46 : decode cX0_isSignOf 46 = .ok (.goto 4, 3) := by decide +kernel
theorem dX0_isSignOf_49 : decode cX0_isSignOf 49 = .ok (.iconst 0, 1) := by decide +kernel
theorem dX0_isSignOf_50 : decode cX0_isSignOf 50 = .ok (.ireturn, 1) := by decide +kernel
theorem dX0_readLevel_0 : decode cX0_readLevel 0 = .ok (.iload_n 1, 1) := by decide +kernel
theorem dX0_readLevel_1 : decode cX0_readLevel 1 = .ok (.iconst 5, 1) := by decide +kernel
theorem dX0_readLevel_2 : decode cX0_readLevel 2 = .ok (.if_icmp .lt 10, 3) := by decide +kernel
theorem dX0_readLevel_5 : decode cX0_readLevel 5 = .ok (.aload_n 0, 1) := by decide +kernel
theorem dX0_readLevel_6 : decode cX0_readLevel 6 = .ok (.iload_n 2, 1) := by decide +kernel
theorem dX0_readLevel_7 : decode cX0_readLevel 7 = .ok (.iload_n 3, 1) := by decide +kernel
theorem dX0_readLevel_8 : decode cX0_readLevel 8 = .ok (.invokevirtual 114, 3) := by decide +kernel
theorem dX0_readLevel_11 : decode cX0_readLevel 11 = .ok (.return_, 1) := by decide +kernel
theorem dX0_readLevel_12 : decode cX0_readLevel 12 = .ok (.aload_n 0, 1) := by decide +kernel
theorem dX0_readLevel_13 : decode cX0_readLevel 13 = .ok (.iload_n 1, 1) := by decide +kernel
theorem dX0_readLevel_14 : decode cX0_readLevel 14 = .ok (.iconst 1, 1) := by decide +kernel
theorem dX0_readLevel_15 : decode cX0_readLevel 15 = .ok (.iadd, 1) := by decide +kernel
theorem dX0_readLevel_16 : decode cX0_readLevel 16 = .ok (.iload_n 2, 1) := by decide +kernel
theorem dX0_readLevel_17 : decode cX0_readLevel 17 = .ok (.iload_n 3, 1) := by decide +kernel
theorem dX0_readLevel_18 : decode cX0_readLevel 18 = .ok (.invokevirtual 56, 3) := by decide +kernel
theorem dX0_readLevel_21 : decode cX0_readLevel 21 = .ok (.iload_n 1, 1) := by decide +kernel
theorem dX0_readLevel_22 : decode cX0_readLevel 22 = .ok (.iconst 2, 1) := by decide +kernel
theorem dX0_readLevel_23 : decode cX0_readLevel 23 = .ok (.if_icmp .ne 7, 3) := by decide +kernel
theorem dX0_readLevel_26 : decode cX0_readLevel 26 = .ok (.iconst 1, 1) := by decide +kernel
theorem dX0_readLevel_27 : decode cX0_readLevel 27 = .ok (.goto 5, 3) := by decide +kernel
theorem dX0_readLevel_30 : decode cX0_readLevel 30 = .ok (.bipush 96, 2) := by decide +kernel
theorem dX0_readLevel_32 : decode cX0_readLevel 32 = .ok (.istore 4, 2) := by decide +kernel
theorem dX0_readLevel_34 : decode cX0_readLevel 34 = .ok (.iconst 0, 1) := by decide +kernel
theorem dX0_readLevel_35 : decode cX0_readLevel 35 = .ok (.istore 5, 2) := by decide +kernel
theorem dX0_readLevel_37 : decode cX0_readLevel 37 = .ok (.iload 5, 2) := by decide +kernel
theorem dX0_readLevel_39 : decode cX0_readLevel 39 = .ok (.iload 4, 2) := by decide +kernel
theorem dX0_readLevel_41 : decode cX0_readLevel 41 = .ok (.if_icmp .ge 48, 3) := by decide +kernel
theorem dX0_readLevel_44 : decode cX0_readLevel 44 = .ok (.aload_n 0, 1) := by decide +kernel
theorem dX0_readLevel_45 : decode cX0_readLevel 45 = .ok (.iload_n 1, 1) := by decide +kernel
theorem dX0_readLevel_46 : decode cX0_readLevel 46 = .ok (.invokevirtual 118, 3) := by decide +kernel
theorem dX0_readLevel_49 : decode cX0_readLevel 49 = .ok (.ifCond .eq 40, 3) := by decide +kernel
theorem dX0_readLevel_52 : decode cX0_readLevel 52 = .ok (.aload_n 0, 1) := by decide +kernel
theorem dX0_readLevel_53 : decode cX0_readLevel 53 = .ok (.getfield 15, 3) := by decide +kernel
theorem dX0_readLevel_56 : decode cX0_readLevel 56 = .ok (.aload_n 0, 1) := by decide +kernel
theorem dX0_readLevel_57 : decode cX0_readLevel 57 = .ok (.getfield 53, 3) := by decide +kernel
theorem dX0_readLevel_60 : decode cX0_readLevel 60 = .ok (.iaload, 1) := by decide +kernel
theorem dX0_readLevel_61 : decode cX0_readLevel 61 = .ok (.istore 6, 2) := by decide +kernel
theorem dX0_readLevel_63 : decode cX0_readLevel 63 = .ok (.aload_n 0, 1) := by decide +kernel
theorem dX0_readLevel_64 : decode cX0_readLevel 64 = .ok (.invokevirtual 43, 3) := by decide +kernel
theorem dX0_readLevel_67 : decode cX0_readLevel 67 = .ok (.aload_n 0, 1) := by decide +kernel
theorem dX0_readLevel_68 : decode cX0_readLevel 68 = .ok (.iload_n 1, 1) := by decide +kernel
theorem dX0_readLevel_69 : decode cX0_readLevel 69 = .ok (.iconst 1, 1) := by decide +kernel
theorem dX0_readLevel_70 : decode cX0_readLevel 70 = .ok (.iadd, 1) := by decide +kernel
theorem dX0_readLevel_71 : decode cX0_readLevel 71 = .ok (.iload_n 2, 1) := by decide +kernel
theorem dX0_readLevel_72 : decode cX0_readLevel 72 = .ok (.iload_n 3, 1) := by decide +kernel
theorem dX0_readLevel_73 : decode cX0_readLevel 73 = .ok (.invokevirtual 56, 3) := by decide +kernel
theorem dX0_readLevel_76 : decode cX0_readLevel 76 = .ok (.aload_n 0, 1) := by decide +kernel
theorem dX0_readLevel_77 : decode cX0_readLevel 77 = .ok (.iload 6, 2) := by decide +kernel
theorem dX0_readLevel_79 : decode cX0_readLevel 79 = .ok (.ineg, 1) := by decide +kernel
theorem dX0_readLevel_80 : decode cX0_readLevel 80 = .ok (.invokevirtual 94, 3) := by decide +kernel
theorem dX0_readLevel_83 : decode cX0_readLevel 83 = .ok (.iinc 5 1, 3) := by decide +kernel
theorem dX0_readLevel_86 : decode cX0_readLevel 86 = .ok (.goto (-49), 3) := by decide +kernel
theorem dX0_readLevel_89 : decode cX0_readLevel 89 = .ok (.return_, 1) := by decide +kernel
theorem dX0_readPiece_0 : decode cX0_readPiece 0 = .ok (.aload_n 0, 1) := by decide +kernel
theorem dX0_readPiece_1 : decode cX0_readPiece 1 = .ok (.invokevirtual 122, 3) := by decide +kernel
theorem dX0_readPiece_4 : decode cX0_readPiece 4 = .ok (.istore_n 3, 1) := by decide +kernel
theorem dX0_readPiece_5 : decode cX0_readPiece 5 = .ok (.aload_n 0, 1) := by decide +kernel
theorem dX0_readPiece_6 : decode cX0_readPiece 6 = .ok (.getfield 34, 3) := by decide +kernel
theorem dX0_readPiece_9 : decode cX0_readPiece 9 = .ok (.iconst 2, 1) := by decide +kernel
theorem dX0_readPiece_10 : decode cX0_readPiece 10 = .ok (.if_icmp .ne 27, 3) := by decide +kernel
theorem dX0_readPiece_13 : decode cX0_readPiece 13 = .ok (.aload_n 0, 1) := by decide +kernel
theorem dX0_readPiece_14 : decode cX0_readPiece 14 = .ok (.getfield 37, 3) := by decide +kernel
theorem dX0_readPiece_17 : decode cX0_readPiece 17 = .ok (.aload_n 0, 1) := by decide +kernel
theorem dX0_readPiece_18 : decode cX0_readPiece 18 = .ok (.getfield 53, 3) := by decide +kernel
theorem dX0_readPiece_21 : decode cX0_readPiece 21 = .ok (.isub, 1) := by decide +kernel
theorem dX0_readPiece_22 : decode cX0_readPiece 22 = .ok (.iconst 4, 1) := by decide +kernel
theorem dX0_readPiece_23 : decode cX0_readPiece 23 = .ok (.if_icmp .gt 14, 3) := by decide +kernel
theorem dX0_readPiece_26 : decode cX0_readPiece 26 = .ok (.aload_n 0, 1) := by decide +kernel
theorem dX0_readPiece_27 : decode cX0_readPiece 27 = .ok (.aload_n 0, 1) := by decide +kernel
theorem dX0_readPiece_28 : decode cX0_readPiece 28 = .ok (.invokevirtual 125, 3) := by decide +kernel
theorem dX0_readPiece_31 : decode cX0_readPiece 31 = .ok (.invokevirtual 128, 3) := by decide +kernel
theorem dX0_readPiece_34 : decode cX0_readPiece 34 = .ok (.goto 108, 3) := by decide +kernel
theorem dX0_readPiece_37 : decode cX0_readPiece 37 = .ok (.iload_n 3, 1) := by decide +kernel
theorem dX0_readPiece_38 : decode cX0_readPiece 38 = .ok (.ifCond .lt 13, 3) := by decide +kernel
theorem dX0_readPiece_41 : decode cX0_readPiece 41 = .ok (.aload_n 0, 1) := by decide +kernel
theorem dX0_readPiece_42 : decode cX0_readPiece 42 = .ok (.iconst (-1), 1) := by decide +kernel
theorem dX0_readPiece_43 : decode cX0_readPiece 43 = .ok (.iload_n 3, 1) := by decide +kernel
theorem dX0_readPiece_44 : decode cX0_readPiece 44 = .ok (.isub, 1) := by decide +kernel
theorem dX0_readPiece_45 : decode cX0_readPiece 45 = .ok (.invokevirtual 128, 3) := by decide +kernel
theorem dX0_readPiece_48 : decode cX0_readPiece 48 = .ok (.goto 94, 3) := by decide +kernel
theorem dX0_readPiece_51 : decode cX0_readPiece 51 = .ok (.aload_n 0, 1) := by decide +kernel
theorem dX0_readPiece_52 : decode cX0_readPiece 52 = .ok (.bipush 33, 2) := by decide +kernel
theorem dX0_readPiece_54 : decode cX0_readPiece 54 = .ok (.invokevirtual 131, 3) := by decide +kernel
theorem dX0_readPiece_57 : decode cX0_readPiece 57 = .ok (.ifCond .eq 30, 3) := by decide +kernel
theorem dX0_readPiece_60 : decode cX0_readPiece 60 = .ok (.iload_n 2, 1) := by decide +kernel
theorem dX0_readPiece_61 : decode cX0_readPiece 61 = .ok (.bipush 8, 2) := by decide +kernel
theorem dX0_readPiece_63 : decode cX0_readPiece 63 = .ok (.if_icmp .ge 24, 3) := by decide +kernel
theorem dX0_readPiece_66 : decode cX0_readPiece 66 = .ok (.aload_n 0, 1) := by decide +kernel
theorem dX0_readPiece_67 : decode cX0_readPiece 67 = .ok (.invokevirtual 43, 3) := by decide +kernel
theorem dX0_readPiece_70 : decode cX0_readPiece 70 = .ok (.aload_n 0, 1) := by decide +kernel
theorem dX0_readPiece_71 : decode cX0_readPiece 71 = .ok (.iload_n 1, 1) := by decide +kernel
theorem dX0_readPiece_72 : decode cX0_readPiece 72 = .ok (.iload_n 2, 1) := by decide +kernel
theorem dX0_readPiece_73 : decode cX0_readPiece 73 = .ok (.iconst 1, 1) := by decide +kernel
theorem dX0_readPiece_74 : decode cX0_readPiece 74 = .ok (.iadd, 1) := by decide +kernel
theorem dX0_readPiece_75 : decode cX0_readPiece 75 = .ok (.invokevirtual 114, 3) := by decide +kernel
theorem dX0_readPiece_78 : decode cX0_readPiece 78 = .ok (.aload_n 0, 1) := by decide +kernel
theorem dX0_readPiece_79 : decode cX0_readPiece 79 = .ok (.bipush (-33), 2) := by decide +kernel
theorem dX0_readPiece_81 : decode cX0_readPiece 81 = .ok (.invokevirtual 94, 3) := by decide +kernel
theorem dX0_readPiece_84 : decode cX0_readPiece 84 = .ok (.goto 58, 3) := by decide +kernel
theorem dX0_readPiece_87 : decode cX0_readPiece 87 = .ok (.aload_n 0, 1) := by decide +kernel
theorem dX0_readPiece_88 : decode cX0_readPiece 88 = .ok (.bipush 40, 2) := by decide +kernel
theorem dX0_readPiece_90 : decode cX0_readPiece 90 = .ok (.invokevirtual 131, 3) := by decide +kernel
theorem dX0_readPiece_93 : decode cX0_readPiece 93 = .ok (.ifCond .eq 45, 3) := by decide +kernel
theorem dX0_readPiece_96 : decode cX0_readPiece 96 = .ok (.iload_n 1, 1) := by decide +kernel
theorem dX0_readPiece_97 : decode cX0_readPiece 97 = .ok (.bipush 8, 2) := by decide +kernel
theorem dX0_readPiece_99 : decode cX0_readPiece 99 = .ok (.if_icmp .ge 39, 3) := by decide +kernel
theorem dX0_readPiece_102 : decode cX0_readPiece 102 = .ok (.aload_n 0, 1) := by decide +kernel
theorem dX0_readPiece_103 : decode cX0_readPiece 103 = .ok (.invokevirtual 43, 3) := by decide +kernel
theorem dX0_readPiece_106 : decode cX0_readPiece 106 = .ok (.aload_n 0, 1) := by decide +kernel
theorem dX0_readPiece_107 : decode cX0_readPiece 107 = .ok (.iconst 0, 1) := by decide +kernel
theorem dX0_readPiece_108 : decode cX0_readPiece 108 = .ok (.iload_n 1, 1) := by decide +kernel
theorem dX0_readPiece_109 : decode cX0_readPiece 109 = .ok (.iconst 1, 1) := by decide +kernel
theorem dX0_readPiece_110 : decode cX0_readPiece 110 = .ok (.iadd, 1) := by decide +kernel
theorem dX0_readPiece_111 : decode cX0_readPiece 111 = .ok (.iload_n 2, 1) := by decide +kernel
theorem dX0_readPiece_112 : decode cX0_readPiece 112 = .ok (.invokevirtual 56, 3) := by decide +kernel
theorem dX0_readPiece_115 : decode cX0_readPiece 115 = .ok (.aload_n 0, 1) := by decide +kernel
theorem dX0_readPiece_116 : decode cX0_readPiece 116 = .ok (.bipush 41, 2) := by decide +kernel
theorem dX0_readPiece_118 : decode cX0_readPiece 118 = .ok (.invokevirtual 131, 3) := by decide +kernel
theorem dX0_readPiece_121 : decode cX0_readPiece 121 = .ok (.ifCond .eq 10, 3) := by decide +kernel
theorem dX0_readPiece_124 : decode cX0_readPiece 124 = .ok (.aload_n 0, 1) := by decide +kernel
theorem dX0_readPiece_125 : decode cX0_readPiece 125 = .ok (.invokevirtual 43, 3) := by decide +kernel
theorem dX0_readPiece_128 : decode cX0_readPiece 128 = .ok (.goto 14, 3) := by decide +kernel
theorem dX0_readPiece_131 : decode cX0_readPiece 131 = .ok (.aload_n 0, 1) := by decide +kernel
theorem dX0_readPiece_132 : decode cX0_readPiece 132 = .ok (.invokevirtual 60, 3) := by decide +kernel
theorem dX0_readPiece_135 : decode cX0_readPiece 135 = .ok (.goto 7, 3) := by decide +kernel
theorem dX0_readPiece_138 : decode cX0_readPiece 138 = .ok (.aload_n 0, 1) := by decide +kernel
theorem dX0_readPiece_139 : decode cX0_readPiece 139 = .ok (.invokevirtual 60, 3) := by decide +kernel
theorem dX0_readPiece_142 : decode cX0_readPiece 142 = .ok (.return_, 1) := by decide +kernel
theorem dX1_init_0 : decode cX1_init 0 = .ok (.aload_n 0, 1) := by decide +kernel
theorem dX1_init_1 : decode cX1_init 1 = .ok (.invokespecial 3, 3) := by decide +kernel
theorem dX1_init_4 : decode cX1_init 4 = .ok (.aload_n 0, 1) := by decide +kernel
theorem dX1_init_5 : decode cX1_init 5 = .ok (.bipush 24, 2) := by decide +kernel
theorem dX1_init_7 : decode cX1_init 7 = .ok (.newarray .int, 2) := by decide +kernel
theorem dX1_init_9 : decode cX1_init 9 = .ok (.putfield 9, 3) := by decide +kernel
theorem dX1_init_12 : decode cX1_init 12 = .ok (.aload_n 0, 1) := by decide +kernel
theorem dX1_init_13 : decode cX1_init 13 = .ok (.iconst (-1), 1) := by decide +kernel
theorem dX1_init_14 : decode cX1_init 14 = .ok (.putfield 15, 3) := by decide +kernel
theorem dX1_init_17 : decode cX1_init 17 = .ok (.return_, 1) := by decide +kernel
theorem dX1_clear_0 : decode cX1_clear 0 = .ok (.aload_n 0, 1) := by decide +kernel
theorem dX1_clear_1 : decode cX1_clear 1 = .ok (.getfield 9, 3) := by decide +kernel
theorem dX1_clear_4 : decode cX1_clear 4 = .ok (.iconst 0, 1) := by decide +kernel
theorem dX1_clear_5 : decode cX1_clear 5 = .ok (.invokestatic 19, 3) := by decide +kernel
theorem dX1_clear_8 : decode cX1_clear 8 = .ok (.aload_n 0, 1) := by decide +kernel
theorem dX1_clear_9 : decode cX1_clear 9 = .ok (.iload_n 1, 1) := by decide +kernel
theorem dX1_clear_10 : decode cX1_clear 10 = .ok (.putfield 15, 3) := by decide +kernel
theorem dX1_clear_13 : decode cX1_clear 13 = .ok (.aload_n 0, 1) := by decide +kernel
theorem dX1_clear_14 : decode cX1_clear 14 = .ok (.iload_n 2, 1) := by decide +kernel
theorem dX1_clear_15 : decode cX1_clear 15 = .ok (.putfield 25, 3) := by decide +kernel
theorem dX1_clear_18 : decode cX1_clear 18 = .ok (.return_, 1) := by decide +kernel
theorem dX1_become_0 : decode cX1_become 0 = .ok (.aload_n 1, 1) := by decide +kernel
theorem dX1_become_1 : decode cX1_become 1 = .ok (.getfield 9, 3) := by decide +kernel
theorem dX1_become_4 : decode cX1_become 4 = .ok (.iconst 0, 1) := by decide +kernel
theorem dX1_become_5 : decode cX1_become 5 = .ok (.aload_n 0, 1) := by decide +kernel
theorem dX1_become_6 : decode cX1_become 6 = .ok (.getfield 9, 3) := by decide +kernel
theorem dX1_become_9 : decode cX1_become 9 = .ok (.iconst 0, 1) := by decide +kernel
theorem dX1_become_10 : decode cX1_become 10 = .ok (.bipush 24, 2) := by decide +kernel
theorem dX1_become_12 : decode cX1_become 12 = .ok (.invokestatic 28, 3) := by decide +kernel
theorem dX1_become_15 : decode cX1_become 15 = .ok (.aload_n 0, 1) := by decide +kernel
theorem dX1_become_16 : decode cX1_become 16 = .ok (.aload_n 1, 1) := by decide +kernel
theorem dX1_become_17 : decode cX1_become 17 = .ok (.getfield 15, 3) := by decide +kernel
theorem dX1_become_20 : decode cX1_become 20 = .ok (.putfield 15, 3) := by decide +kernel
theorem dX1_become_23 : decode cX1_become 23 = .ok (.aload_n 0, 1) := by decide +kernel
theorem dX1_become_24 : decode cX1_become 24 = .ok (.aload_n 1, 1) := by decide +kernel
theorem dX1_become_25 : decode cX1_become 25 = .ok (.getfield 25, 3) := by decide +kernel
theorem dX1_become_28 : decode cX1_become 28 = .ok (.putfield 25, 3) := by decide +kernel
theorem dX1_become_31 : decode cX1_become 31 = .ok (.return_, 1) := by decide +kernel
theorem dX1_hasRun_0 : decode cX1_hasRun 0 = .ok (.iload_n 1, 1) := by decide +kernel
theorem dX1_hasRun_1 : decode cX1_hasRun 1 = .ok (.ifCond .lt 29, 3) := by decide +kernel
theorem dX1_hasRun_4 : decode cX1_hasRun 4 = .ok (.iload_n 2, 1) := by decide +kernel
theorem dX1_hasRun_5 : decode cX1_hasRun 5 = .ok (.ifCond .lt 25, 3) := by decide +kernel
theorem dX1_hasRun_8 : decode cX1_hasRun 8 = .ok (.iload_n 1, 1) := by decide +kernel
theorem dX1_hasRun_9 : decode cX1_hasRun 9 = .ok (.aload_n 0, 1) := by decide +kernel
theorem dX1_hasRun_10 : decode cX1_hasRun 10 = .ok (.getfield 25, 3) := by decide +kernel
theorem dX1_hasRun_13 : decode cX1_hasRun 13 = .ok (.if_icmp .gt 17, 3) := by decide +kernel
theorem dX1_hasRun_16 : decode cX1_hasRun 16 = .ok (.iload_n 2, 1) := by decide +kernel
theorem dX1_hasRun_17 : decode cX1_hasRun 17 = .ok (.aload_n 0, 1) := by decide +kernel
theorem dX1_hasRun_18 : decode cX1_hasRun 18 = .ok (.getfield 25, 3) := by decide +kernel
theorem dX1_hasRun_21 : decode cX1_hasRun 21 = .ok (.iload_n 1, 1) := by decide +kernel
theorem dX1_hasRun_22 : decode cX1_hasRun 22 = .ok (.isub, 1) := by decide +kernel
theorem dX1_hasRun_23 : decode cX1_hasRun 23 = .ok (.if_icmp .gt 7, 3) := by decide +kernel
theorem dX1_hasRun_26 : decode cX1_hasRun 26 = .ok (.iconst 1, 1) := by decide +kernel
theorem dX1_hasRun_27 : decode cX1_hasRun 27 = .ok (.goto 4, 3) := by decide +kernel
theorem dX1_hasRun_30 : decode cX1_hasRun 30 = .ok (.iconst 0, 1) := by decide +kernel
theorem dX1_hasRun_31 : decode cX1_hasRun 31 = .ok (.ireturn, 1) := by decide +kernel
theorem dX2_init_0 : decode cX2_init 0 = .ok (.aload_n 0, 1) := by decide +kernel
theorem dX2_init_1 : decode cX2_init 1 = .ok (.invokespecial 3, 3) := by decide +kernel
theorem dX2_init_4 : decode cX2_init 4 = .ok (.aload_n 0, 1) := by decide +kernel
theorem dX2_init_5 : decode cX2_init 5 = .ok (.new 9, 3) := by decide +kernel
theorem dX2_init_8 : decode cX2_init 8 = .ok (.dup, 1) := by decide +kernel
theorem dX2_init_9 : decode cX2_init 9 = .ok (.invokespecial 11, 3) := by decide +kernel
theorem dX2_init_12 : decode cX2_init 12 = .ok (.putfield 12, 3) := by decide +kernel
theorem dX2_init_15 : decode cX2_init 15 = .ok (.aload_n 0, 1) := by decide +kernel
theorem dX2_init_16 : decode cX2_init 16 = .ok (.iconst 0, 1) := by decide +kernel
theorem dX2_init_17 : decode cX2_init 17 = .ok (.putfield 18, 3) := by decide +kernel
theorem dX2_init_20 : decode cX2_init 20 = .ok (.return_, 1) := by decide +kernel
theorem dX2_takeMark_0 : decode cX2_takeMark 0 = .ok (.aload_n 0, 1) := by decide +kernel
theorem dX2_takeMark_1 : decode cX2_takeMark 1 = .ok (.iload_n 1, 1) := by decide +kernel
theorem dX2_takeMark_2 : decode cX2_takeMark 2 = .ok (.putfield 22, 3) := by decide +kernel
theorem dX2_takeMark_5 : decode cX2_takeMark 5 = .ok (.aload_n 0, 1) := by decide +kernel
theorem dX2_takeMark_6 : decode cX2_takeMark 6 = .ok (.iload_n 2, 1) := by decide +kernel
theorem dX2_takeMark_7 : decode cX2_takeMark 7 = .ok (.putfield 25, 3) := by decide +kernel
theorem dX2_takeMark_10 : decode cX2_takeMark 10 = .ok (.aload_n 0, 1) := by decide +kernel
theorem dX2_takeMark_11 : decode cX2_takeMark 11 = .ok (.iload_n 3, 1) := by decide +kernel
theorem dX2_takeMark_12 : decode cX2_takeMark 12 = .ok (.putfield 28, 3) := by decide +kernel
theorem dX2_takeMark_15 : decode cX2_takeMark 15 = .ok (.return_, 1) := by decide +kernel
theorem dX3_init_0 : decode cX3_init 0 = .ok (.aload_n 0, 1) := by decide +kernel
theorem dX3_init_1 : decode cX3_init 1 = .ok (.invokespecial 3, 3) := by decide +kernel
theorem dX3_init_4 : decode cX3_init 4 = .ok (.aload_n 0, 1) := by decide +kernel
theorem dX3_init_5 : decode cX3_init 5 = .ok (.bipush 14, 2) := by decide +kernel
theorem dX3_init_7 : decode cX3_init 7 = .ok (.bipush 96, 2) := by decide +kernel
theorem dX3_init_9 : decode cX3_init 9 = .ok (.multianewarray 9 2, 4) := by decide +kernel
theorem dX3_init_13 : decode cX3_init 13 = .ok (.putfield 11, 3) := by decide +kernel
theorem dX3_init_16 : decode cX3_init 16 = .ok (.aload_n 0, 1) := by decide +kernel
theorem dX3_init_17 : decode cX3_init 17 = .ok (.bipush 14, 2) := by decide +kernel
theorem dX3_init_19 : decode cX3_init 19 = .ok (.newarray .int, 2) := by decide +kernel
theorem dX3_init_21 : decode cX3_init 21 = .ok (.putfield 16, 3) := by decide +kernel
theorem dX3_init_24 : decode cX3_init 24 = .ok (.aload_n 0, 1) := by decide +kernel
theorem dX3_init_25 : decode cX3_init 25 = .ok (.bipush 14, 2) := by decide +kernel
theorem dX3_init_27 : decode cX3_init 27 = .ok (.newarray .int, 2) := by decide +kernel
theorem dX3_init_29 : decode cX3_init 29 = .ok (.putfield 20, 3) := by decide +kernel
theorem dX3_init_32 : decode cX3_init 32 = .ok (.aload_n 0, 1) := by decide +kernel
theorem dX3_init_33 : decode cX3_init 33 = .ok (.bipush 14, 2) := by decide +kernel
theorem dX3_init_35 : decode cX3_init 35 = .ok (.newarray .int, 2) := by decide +kernel
theorem dX3_init_37 : decode cX3_init 37 = .ok (.putfield 23, 3) := by decide +kernel
theorem dX3_init_40 : decode cX3_init 40 = .ok (.aload_n 0, 1) := by decide +kernel
theorem dX3_init_41 : decode cX3_init 41 = .ok (.bipush 96, 2) := by decide +kernel
theorem dX3_init_43 : decode cX3_init 43 = .ok (.newarray .int, 2) := by decide +kernel
theorem dX3_init_45 : decode cX3_init 45 = .ok (.putfield 26, 3) := by decide +kernel
theorem dX3_init_48 : decode cX3_init 48 = .ok (.return_, 1) := by decide +kernel
theorem dX3_take_0 : decode cX3_take 0 = .ok (.iload_n 1, 1) := by decide +kernel
theorem dX3_take_1 : decode cX3_take 1 = .ok (.iconst 0, 1) := by decide +kernel
theorem dX3_take_2 : decode cX3_take 2 = .ok (.bipush 13, 2) := by decide +kernel
theorem dX3_take_4 : decode cX3_take 4 = .ok (.invokestatic 29, 3) := by decide +kernel
theorem dX3_take_7 : decode cX3_take 7 = .ok (.ifCond .ne 4, 3) := by decide +kernel
theorem dX3_take_10 : decode cX3_take 10 = .ok (.return_, 1) := by decide +kernel
theorem dX3_take_11 : decode cX3_take 11 = .ok (.aload_n 2, 1) := by decide +kernel
theorem dX3_take_12 : decode cX3_take 12 = .ok (.getfield 33, 3) := by decide +kernel
theorem dX3_take_15 : decode cX3_take 15 = .ok (.iconst 0, 1) := by decide +kernel
theorem dX3_take_16 : decode cX3_take 16 = .ok (.aload_n 0, 1) := by decide +kernel
theorem dX3_take_17 : decode cX3_take 17 = .ok (.getfield 11, 3) := by decide +kernel
theorem dX3_take_20 : decode cX3_take 20 = .ok (.iload_n 1, 1) := by decide +kernel
theorem dX3_take_21 : decode cX3_take 21 = .ok (.aaload, 1) := by decide +kernel
theorem dX3_take_22 : decode cX3_take 22 = .ok (.iconst 0, 1) := by decide +kernel
theorem dX3_take_23 : decode cX3_take 23 = .ok (.aload_n 2, 1) := by decide +kernel
theorem dX3_take_24 : decode cX3_take 24 = .ok (.getfield 37, 3) := by decide +kernel
theorem dX3_take_27 : decode cX3_take 27 = .ok (.invokestatic 40, 3) := by decide +kernel
theorem dX3_take_30 : decode cX3_take 30 = .ok (.aload_n 0, 1) := by decide +kernel
theorem dX3_take_31 : decode cX3_take 31 = .ok (.getfield 16, 3) := by decide +kernel
theorem dX3_take_34 : decode cX3_take 34 = .ok (.iload_n 1, 1) := by decide +kernel
theorem dX3_take_35 : decode cX3_take 35 = .ok (.aload_n 2, 1) := by decide +kernel
theorem dX3_take_36 : decode cX3_take 36 = .ok (.getfield 37, 3) := by decide +kernel
theorem dX3_take_39 : decode cX3_take 39 = .ok (.iastore, 1) := by decide +kernel
theorem dX3_take_40 : decode cX3_take 40 = .ok (.aload_n 0, 1) := by decide +kernel
theorem dX3_take_41 : decode cX3_take 41 = .ok (.getfield 20, 3) := by decide +kernel
theorem dX3_take_44 : decode cX3_take 44 = .ok (.iload_n 1, 1) := by decide +kernel
theorem dX3_take_45 : decode cX3_take 45 = .ok (.aload_n 2, 1) := by decide +kernel
theorem dX3_take_46 : decode cX3_take 46 = .ok (.getfield 46, 3) := by decide +kernel
theorem dX3_take_49 : decode cX3_take 49 = .ok (.iastore, 1) := by decide +kernel
theorem dX3_take_50 : decode cX3_take 50 = .ok (.aload_n 0, 1) := by decide +kernel
theorem dX3_take_51 : decode cX3_take 51 = .ok (.getfield 23, 3) := by decide +kernel
theorem dX3_take_54 : decode cX3_take 54 = .ok (.iload_n 1, 1) := by decide +kernel
theorem dX3_take_55 : decode cX3_take 55 = .ok (.aload_n 2, 1) := by decide +kernel
theorem dX3_take_56 : decode cX3_take 56 = .ok (.getfield 48, 3) := by decide +kernel
theorem dX3_take_59 : decode cX3_take 59 = .ok (.iastore, 1) := by decide +kernel
theorem dX3_take_60 : decode cX3_take 60 = .ok (.return_, 1) := by decide +kernel
theorem dX3_gives_0 : decode cX3_gives 0 = .ok (.iload_n 1, 1) := by decide +kernel
theorem dX3_gives_1 : decode cX3_gives 1 = .ok (.iconst 0, 1) := by decide +kernel
theorem dX3_gives_2 : decode cX3_gives 2 = .ok (.bipush 13, 2) := by decide +kernel
theorem dX3_gives_4 : decode cX3_gives 4 = .ok (.invokestatic 29, 3) := by decide +kernel
theorem dX3_gives_7 : decode cX3_gives 7 = .ok (.ifCond .ne 5, 3) := by decide +kernel
theorem dX3_gives_10 : decode cX3_gives 10 = .ok (.iconst 0, 1) := by decide +kernel
theorem dX3_gives_11 : decode cX3_gives 11 = .ok (.ireturn, 1) := by decide +kernel
theorem dX3_gives_12 : decode cX3_gives 12 = .ok (.iconst (-1), 1) := by decide +kernel
theorem dX3_gives_13 : decode cX3_gives 13 = .ok (.istore 6, 2) := by decide +kernel
theorem dX3_gives_15 : decode cX3_gives 15 = .ok (.iconst 0, 1) := by decide +kernel
theorem dX3_gives_16 : decode cX3_gives 16 = .ok (.istore 7, 2) := by decide +kernel
theorem dX3_gives_18 : decode cX3_gives 18 = .ok (.iload 7, 2) := by decide +kernel
theorem dX3_gives_20 : decode cX3_gives 20 = .ok (.aload_n 0, 1) := by decide +kernel
theorem dX3_gives_21 : decode cX3_gives 21 = .ok (.getfield 16, 3) := by decide +kernel
theorem dX3_gives_24 : decode cX3_gives 24 = .ok (.iload_n 1, 1) := by decide +kernel
theorem dX3_gives_25 : decode cX3_gives 25 = .ok (.iaload, 1) := by decide +kernel
theorem dX3_gives_26 : decode cX3_gives 26 = .ok (.if_icmp .ge 209, 3) := by decide +kernel
theorem dX3_gives_29 : decode cX3_gives 29 = .ok (.iload 7, 2) := by decide +kernel
theorem dX3_gives_31 : decode cX3_gives 31 = .ok (.bipush 96, 2) := by decide +kernel
theorem dX3_gives_33 : decode cX3_gives 33 = .ok (.if_icmp .ge 202, 3) := by decide +kernel
theorem dX3_gives_36 : decode cX3_gives 36 = .ok (.aload_n 0, 1) := by decide +kernel
theorem dX3_gives_37 : decode cX3_gives 37 = .ok (.getfield 11, 3) := by decide +kernel
theorem dX3_gives_40 : decode cX3_gives 40 = .ok (.iload_n 1, 1) := by decide +kernel
theorem dX3_gives_41 : decode cX3_gives 41 = .ok (.aaload, 1) := by decide +kernel
theorem dX3_gives_42 : decode cX3_gives 42 = .ok (.iload 7, 2) := by decide +kernel
theorem dX3_gives_44 : decode cX3_gives 44 = .ok (.iaload, 1) := by decide +kernel
theorem dX3_gives_45 : decode cX3_gives 45 = .ok (.istore 8, 2) := by decide +kernel
theorem dX3_gives_47 : decode cX3_gives 47 = .ok (.iload 8, 2) := by decide +kernel
theorem dX3_gives_49 : decode cX3_gives 49 = .ok (.bipush (-4), 2) := by decide +kernel
theorem dX3_gives_51 : decode cX3_gives 51 = .ok (.if_icmp .lt 103, 3) := by decide +kernel
theorem dX3_gives_54 : decode cX3_gives 54 = .ok (.iload 6, 2) := by decide +kernel
theorem dX3_gives_56 : decode cX3_gives 56 = .ok (.bipush 95, 2) := by decide +kernel
theorem dX3_gives_58 : decode cX3_gives 58 = .ok (.if_icmp .ge 96, 3) := by decide +kernel
theorem dX3_gives_61 : decode cX3_gives 61 = .ok (.iinc 6 1, 3) := by decide +kernel
theorem dX3_gives_64 : decode cX3_gives 64 = .ok (.iload 8, 2) := by decide +kernel
theorem dX3_gives_66 : decode cX3_gives 66 = .ok (.tableswitch 76 (-4) (-1) #[64, 52, 41, 30], 30) := by decide +kernel
theorem dX3_gives_96 : decode cX3_gives 96 = .ok (.aload_n 0, 1) := by decide +kernel
theorem dX3_gives_97 : decode cX3_gives 97 = .ok (.getfield 26, 3) := by decide +kernel
theorem dX3_gives_100 : decode cX3_gives 100 = .ok (.iload 6, 2) := by decide +kernel
theorem dX3_gives_102 : decode cX3_gives 102 = .ok (.iload_n 2, 1) := by decide +kernel
theorem dX3_gives_103 : decode cX3_gives 103 = .ok (.iastore, 1) := by decide +kernel
theorem dX3_gives_104 : decode cX3_gives 104 = .ok (.goto 125, 3) := by decide +kernel
theorem dX3_gives_107 : decode cX3_gives 107 = .ok (.aload_n 0, 1) := by decide +kernel
theorem dX3_gives_108 : decode cX3_gives 108 = .ok (.getfield 26, 3) := by decide +kernel
theorem dX3_gives_111 : decode cX3_gives 111 = .ok (.iload 6, 2) := by decide +kernel
theorem dX3_gives_113 : decode cX3_gives 113 = .ok (.iload_n 3, 1) := by decide +kernel
theorem dX3_gives_114 : decode cX3_gives 114 = .ok (.iastore, 1) := by decide +kernel
theorem dX3_gives_115 : decode cX3_gives 115 = .ok (.goto 114, 3) := by decide +kernel
theorem dX3_gives_118 : decode cX3_gives 118 = .ok (.aload_n 0, 1) := by decide +kernel
theorem dX3_gives_119 : decode cX3_gives 119 = .ok (.getfield 26, 3) := by decide +kernel
theorem dX3_gives_122 : decode cX3_gives 122 = .ok (.iload 6, 2) := by decide +kernel
theorem dX3_gives_124 : decode cX3_gives 124 = .ok (.iload 4, 2) := by decide +kernel
theorem dX3_gives_126 : decode cX3_gives 126 = .ok (.iastore, 1) := by decide +kernel
theorem dX3_gives_127 : decode cX3_gives 127 = .ok (.goto 102, 3) := by decide +kernel
theorem dX3_gives_130 : decode cX3_gives 130 = .ok (.aload_n 0, 1) := by decide +kernel
theorem dX3_gives_131 : decode cX3_gives 131 = .ok (.getfield 26, 3) := by decide +kernel
theorem dX3_gives_134 : decode cX3_gives 134 = .ok (.iload 6, 2) := by decide +kernel
theorem dX3_gives_136 : decode cX3_gives 136 = .ok (.iload 5, 2) := by decide +kernel
theorem dX3_gives_138 : decode cX3_gives 138 = .ok (.iastore, 1) := by decide +kernel
theorem dX3_gives_139 : decode cX3_gives 139 = .ok (.goto 90, 3) := by decide +kernel
theorem dX3_gives_142 : decode cX3_gives 142 = .ok (.aload_n 0, 1) := by decide +kernel
theorem dX3_gives_143 : decode cX3_gives 143 = .ok (.getfield 26, 3) := by decide +kernel
theorem dX3_gives_146 : decode cX3_gives 146 = .ok (.iload 6, 2) := by decide +kernel
theorem dX3_gives_148 : decode cX3_gives 148 = .ok (.iload 8, 2) := by decide +kernel
theorem dX3_gives_150 : decode cX3_gives 150 = .ok (.iastore, 1) := by decide +kernel
theorem dX3_gives_151 : decode cX3_gives 151 = .ok (.goto 78, 3) := by decide +kernel
theorem dX3_gives_154 : decode cX3_gives 154 = .ok (.iload 8, 2) := by decide +kernel
theorem dX3_gives_156 : decode cX3_gives 156 = .ok (.bipush (-33), 2) := by decide +kernel
theorem dX3_gives_158 : decode cX3_gives 158 = .ok (.if_icmp .ne 33, 3) := by decide +kernel
theorem dX3_gives_161 : decode cX3_gives 161 = .ok (.iload 6, 2) := by decide +kernel
theorem dX3_gives_163 : decode cX3_gives 163 = .ok (.ifCond .lt 28, 3) := by decide +kernel
theorem dX3_gives_166 : decode cX3_gives 166 = .ok (.aload_n 0, 1) := by decide +kernel
theorem dX3_gives_167 : decode cX3_gives 167 = .ok (.getfield 26, 3) := by decide +kernel
theorem dX3_gives_170 : decode cX3_gives 170 = .ok (.iload 6, 2) := by decide +kernel
theorem dX3_gives_172 : decode cX3_gives 172 = .ok (.aload_n 0, 1) := by decide +kernel
theorem dX3_gives_173 : decode cX3_gives 173 = .ok (.getfield 26, 3) := by decide +kernel
theorem dX3_gives_176 : decode cX3_gives 176 = .ok (.iload 6, 2) := by decide +kernel
theorem dX3_gives_178 : decode cX3_gives 178 = .ok (.iaload, 1) := by decide +kernel
theorem dX3_gives_179 : decode cX3_gives 179 = .ok (.ifCond .ne 7, 3) := by decide +kernel
theorem dX3_gives_182 : decode cX3_gives 182 = .ok (.iconst 1, 1) := by decide +kernel
theorem dX3_gives_183 : decode cX3_gives 183 = .ok (.goto 4, 3) := by decide +kernel
theorem dX3_gives_186 : decode cX3_gives 186 = .ok (.iconst 0, 1) := by decide +kernel
theorem dX3_gives_187 : decode cX3_gives 187 = .ok (.iastore, 1) := by decide +kernel
theorem dX3_gives_188 : decode cX3_gives 188 = .ok (.goto 41, 3) := by decide +kernel
theorem dX3_gives_191 : decode cX3_gives 191 = .ok (.iload 6, 2) := by decide +kernel
theorem dX3_gives_193 : decode cX3_gives 193 = .ok (.iconst 1, 1) := by decide +kernel
theorem dX3_gives_194 : decode cX3_gives 194 = .ok (.if_icmp .lt 35, 3) := by decide +kernel
theorem dX3_gives_197 : decode cX3_gives 197 = .ok (.iinc 6 (-1), 3) := by decide +kernel
theorem dX3_gives_200 : decode cX3_gives 200 = .ok (.aload_n 0, 1) := by decide +kernel
theorem dX3_gives_201 : decode cX3_gives 201 = .ok (.getfield 26, 3) := by decide +kernel
theorem dX3_gives_204 : decode cX3_gives 204 = .ok (.iload 6, 2) := by decide +kernel
theorem dX3_gives_206 : decode cX3_gives 206 = .ok (.iload 8, 2) := by decide +kernel
theorem dX3_gives_208 : decode cX3_gives 208 = .ok (.ineg, 1) := by decide +kernel
theorem dX3_gives_209 : decode cX3_gives 209 = .ok (.aload_n 0, 1) := by decide +kernel
theorem dX3_gives_210 : decode cX3_gives 210 = .ok (.getfield 26, 3) := by decide +kernel
theorem dX3_gives_213 : decode cX3_gives 213 = .ok (.iload 6, 2) := by decide +kernel
theorem dX3_gives_215 : decode cX3_gives 215 = .ok (.iaload, 1) := by decide +kernel
theorem dX3_gives_216 : decode cX3_gives 216 = .ok (.aload_n 0, 1) := by decide +kernel
theorem dX3_gives_217 : decode cX3_gives 217 = .ok (.getfield 26, 3) := by decide +kernel
theorem dX3_gives_220 : decode cX3_gives 220 = .ok (.iload 6, 2) := by decide +kernel
theorem dX3_gives_222 : decode cX3_gives 222 = .ok (.iconst 1, 1) := by decide +kernel
theorem dX3_gives_223 : decode cX3_gives 223 = .ok (.iadd, 1) := by decide +kernel
theorem dX3_gives_224 : decode cX3_gives 224 = .ok (.iaload, 1) := by decide +kernel
theorem dX3_gives_225 : decode cX3_gives 225 = .ok (.invokestatic 50, 3) := by decide +kernel
theorem dX3_gives_228 : decode cX3_gives 228 = .ok (.iastore, 1) := by decide +kernel
theorem dX3_gives_229 : decode cX3_gives 229 = .ok (.iinc 7 1, 3) := by decide +kernel
theorem dX3_gives_232 : decode cX3_gives 232 = .ok (.goto (-214), 3) := by decide +kernel
theorem dX3_gives_235 : decode cX3_gives 235 = .ok (.iload 6, 2) := by decide +kernel
theorem dX3_gives_237 : decode cX3_gives 237 = .ok (.ifCond .ge 7, 3) := by decide +kernel
theorem dX3_gives_240 : decode cX3_gives 240 = .ok (.iconst 0, 1) := by decide +kernel
theorem dX3_gives_241 : decode cX3_gives 241 = .ok (.goto 10, 3) := by decide +kernel
theorem dX3_gives_244 : decode cX3_gives 244 = .ok (.aload_n 0, 1) := by decide +kernel
theorem dX3_gives_245 : decode cX3_gives 245 = .ok (.getfield 26, 3) := by decide +kernel
theorem dX3_gives_248 : decode cX3_gives 248 = .ok (.iload 6, 2) := by decide +kernel
theorem dX3_gives_250 : decode cX3_gives 250 = .ok (.iaload, 1) := by decide +kernel
theorem dX3_gives_251 : decode cX3_gives 251 = .ok (.ireturn, 1) := by decide +kernel
theorem dX3_joined_0 : decode cX3_joined 0 = .ok (.iload_n 0, 1) := by decide +kernel
theorem dX3_joined_1 : decode cX3_joined 1 = .ok (.lookupswitch 168 #[(38, 140), (42, 91), (43, 83), (45, 87), (47, 95), (60, 107), (61, 118), (62, 129), (124, 154)], 83) := by decide +kernel
theorem dX3_joined_84 : decode cX3_joined 84 = .ok (.iload_n 1, 1) := by decide +kernel
theorem dX3_joined_85 : decode cX3_joined 85 = .ok (.iload_n 2, 1) := by decide +kernel
theorem dX3_joined_86 : decode cX3_joined 86 = .ok (.iadd, 1) := by decide +kernel
theorem dX3_joined_87 : decode cX3_joined 87 = .ok (.ireturn, 1) := by decide +kernel
theorem dX3_joined_88 : decode cX3_joined 88 = .ok (.iload_n 1, 1) := by decide +kernel
theorem dX3_joined_89 : decode cX3_joined 89 = .ok (.iload_n 2, 1) := by decide +kernel
theorem dX3_joined_90 : decode cX3_joined 90 = .ok (.isub, 1) := by decide +kernel
theorem dX3_joined_91 : decode cX3_joined 91 = .ok (.ireturn, 1) := by decide +kernel
theorem dX3_joined_92 : decode cX3_joined 92 = .ok (.iload_n 1, 1) := by decide +kernel
theorem dX3_joined_93 : decode cX3_joined 93 = .ok (.iload_n 2, 1) := by decide +kernel
theorem dX3_joined_94 : decode cX3_joined 94 = .ok (.imul, 1) := by decide +kernel
theorem dX3_joined_95 : decode cX3_joined 95 = .ok (.ireturn, 1) := by decide +kernel
theorem dX3_joined_96 : decode cX3_joined 96 = .ok (.iload_n 2, 1) := by decide +kernel
theorem dX3_joined_97 : decode cX3_joined 97 = .ok (.ifCond .ne 7, 3) := by decide +kernel
theorem dX3_joined_100 : decode cX3_joined 100 = .ok (.iconst 0, 1) := by decide +kernel
theorem dX3_joined_101 : decode cX3_joined 101 = .ok (.goto 6, 3) := by decide +kernel
theorem dX3_joined_104 : decode cX3_joined 104 = .ok (.iload_n 1, 1) := by decide +kernel
theorem dX3_joined_105 : decode cX3_joined 105 = .ok (.iload_n 2, 1) := by decide +kernel
theorem dX3_joined_106 : decode cX3_joined 106 = .ok (.idiv, 1) := by decide +kernel
theorem dX3_joined_107 : decode cX3_joined 107 = .ok (.ireturn, 1) := by decide +kernel
theorem dX3_joined_108 : decode cX3_joined 108 = .ok (.iload_n 1, 1) := by decide +kernel
theorem dX3_joined_109 : decode cX3_joined 109 = .ok (.iload_n 2, 1) := by decide +kernel
theorem dX3_joined_110 : decode cX3_joined 110 = .ok (.if_icmp .ge 7, 3) := by decide +kernel
theorem dX3_joined_113 : decode cX3_joined 113 = .ok (.iconst 1, 1) := by decide +kernel
theorem dX3_joined_114 : decode cX3_joined 114 = .ok (.goto 4, 3) := by decide +kernel
theorem dX3_joined_117 : decode cX3_joined 117 = .ok (.iconst 0, 1) := by decide +kernel
theorem dX3_joined_118 : decode cX3_joined 118 = .ok (.ireturn, 1) := by decide +kernel
theorem dX3_joined_119 : decode cX3_joined 119 = .ok (.iload_n 1, 1) := by decide +kernel
theorem dX3_joined_120 : decode cX3_joined 120 = .ok (.iload_n 2, 1) := by decide +kernel
theorem dX3_joined_121 : decode cX3_joined 121 = .ok (.if_icmp .ne 7, 3) := by decide +kernel
theorem dX3_joined_124 : decode cX3_joined 124 = .ok (.iconst 1, 1) := by decide +kernel
theorem dX3_joined_125 : decode cX3_joined 125 = .ok (.goto 4, 3) := by decide +kernel
theorem dX3_joined_128 : decode cX3_joined 128 = .ok (.iconst 0, 1) := by decide +kernel
theorem dX3_joined_129 : decode cX3_joined 129 = .ok (.ireturn, 1) := by decide +kernel
theorem dX3_joined_130 : decode cX3_joined 130 = .ok (.iload_n 1, 1) := by decide +kernel
theorem dX3_joined_131 : decode cX3_joined 131 = .ok (.iload_n 2, 1) := by decide +kernel
theorem dX3_joined_132 : decode cX3_joined 132 = .ok (.if_icmp .le 7, 3) := by decide +kernel
theorem dX3_joined_135 : decode cX3_joined 135 = .ok (.iconst 1, 1) := by decide +kernel
theorem dX3_joined_136 : decode cX3_joined 136 = .ok (.goto 4, 3) := by decide +kernel
theorem dX3_joined_139 : decode cX3_joined 139 = .ok (.iconst 0, 1) := by decide +kernel
theorem dX3_joined_140 : decode cX3_joined 140 = .ok (.ireturn, 1) := by decide +kernel
theorem dX3_joined_141 : decode cX3_joined 141 = .ok (.iload_n 1, 1) := by decide +kernel
theorem dX3_joined_142 : decode cX3_joined 142 = .ok (.ifCond .eq 11, 3) := by decide +kernel
theorem dX3_joined_145 : decode cX3_joined 145 = .ok (.iload_n 2, 1) := by decide +kernel
theorem dX3_joined_146 : decode cX3_joined 146 = .ok (.ifCond .eq 7, 3) := by decide +kernel
theorem dX3_joined_149 : decode cX3_joined 149 = .ok (.iconst 1, 1) := by decide +kernel
theorem dX3_joined_150 : decode cX3_joined 150 = .ok (.goto 4, 3) := by decide +kernel
theorem dX3_joined_153 : decode cX3_joined 153 = .ok (.iconst 0, 1) := by decide +kernel
theorem dX3_joined_154 : decode cX3_joined 154 = .ok (.ireturn, 1) := by decide +kernel
theorem dX3_joined_155 : decode cX3_joined 155 = .ok (.iload_n 1, 1) := by decide +kernel
theorem dX3_joined_156 : decode cX3_joined 156 = .ok (.ifCond .ne 7, 3) := by decide +kernel
theorem dX3_joined_159 : decode cX3_joined 159 = .ok (.iload_n 2, 1) := by decide +kernel
theorem dX3_joined_160 : decode cX3_joined 160 = .ok (.ifCond .eq 7, 3) := by decide +kernel
theorem dX3_joined_163 : decode cX3_joined 163 = .ok (.iconst 1, 1) := by decide +kernel
theorem dX3_joined_164 : decode cX3_joined 164 = .ok (.goto 4, 3) := by decide +kernel
theorem dX3_joined_167 : decode cX3_joined 167 = .ok (.iconst 0, 1) := by decide +kernel
theorem dX3_joined_168 : decode cX3_joined 168 = .ok (.ireturn, 1) := by decide +kernel
theorem dX3_joined_169 : decode cX3_joined 169 = .ok (.iconst 0, 1) := by decide +kernel
theorem dX3_joined_170 : decode cX3_joined 170 = .ok (.ireturn, 1) := by decide +kernel
theorem dX4_init_0 : decode cX4_init 0 = .ok (.aload_n 0, 1) := by decide +kernel
theorem dX4_init_1 : decode cX4_init 1 = .ok (.invokespecial 3, 3) := by decide +kernel
theorem dX4_init_4 : decode cX4_init 4 = .ok (.aload_n 0, 1) := by decide +kernel
theorem dX4_init_5 : decode cX4_init 5 = .ok (.bipush 6, 2) := by decide +kernel
theorem dX4_init_7 : decode cX4_init 7 = .ok (.newarray .int, 2) := by decide +kernel
theorem dX4_init_9 : decode cX4_init 9 = .ok (.putfield 9, 3) := by decide +kernel
theorem dX4_init_12 : decode cX4_init 12 = .ok (.aload_n 0, 1) := by decide +kernel
theorem dX4_init_13 : decode cX4_init 13 = .ok (.bipush 6, 2) := by decide +kernel
theorem dX4_init_15 : decode cX4_init 15 = .ok (.newarray .int, 2) := by decide +kernel
theorem dX4_init_17 : decode cX4_init 17 = .ok (.putfield 15, 3) := by decide +kernel
theorem dX4_init_20 : decode cX4_init 20 = .ok (.aload_n 0, 1) := by decide +kernel
theorem dX4_init_21 : decode cX4_init 21 = .ok (.bipush 6, 2) := by decide +kernel
theorem dX4_init_23 : decode cX4_init 23 = .ok (.newarray .int, 2) := by decide +kernel
theorem dX4_init_25 : decode cX4_init 25 = .ok (.putfield 18, 3) := by decide +kernel
theorem dX4_init_28 : decode cX4_init 28 = .ok (.aload_n 0, 1) := by decide +kernel
theorem dX4_init_29 : decode cX4_init 29 = .ok (.bipush 10, 2) := by decide +kernel
theorem dX4_init_31 : decode cX4_init 31 = .ok (.newarray .int, 2) := by decide +kernel
theorem dX4_init_33 : decode cX4_init 33 = .ok (.putfield 21, 3) := by decide +kernel
theorem dX4_init_36 : decode cX4_init 36 = .ok (.aload_n 0, 1) := by decide +kernel
theorem dX4_init_37 : decode cX4_init 37 = .ok (.bipush 10, 2) := by decide +kernel
theorem dX4_init_39 : decode cX4_init 39 = .ok (.newarray .int, 2) := by decide +kernel
theorem dX4_init_41 : decode cX4_init 41 = .ok (.putfield 24, 3) := by decide +kernel
theorem dX4_init_44 : decode cX4_init 44 = .ok (.aload_n 0, 1) := by decide +kernel
theorem dX4_init_45 : decode cX4_init 45 = .ok (.bipush 10, 2) := by decide +kernel
theorem dX4_init_47 : decode cX4_init 47 = .ok (.newarray .int, 2) := by decide +kernel
theorem dX4_init_49 : decode cX4_init 49 = .ok (.putfield 27, 3) := by decide +kernel
theorem dX4_init_52 : decode cX4_init 52 = .ok (.aload_n 0, 1) := by decide +kernel
theorem dX4_init_53 : decode cX4_init 53 = .ok (.bipush 10, 2) := by decide +kernel
theorem dX4_init_55 : decode cX4_init 55 = .ok (.newarray .int, 2) := by decide +kernel
theorem dX4_init_57 : decode cX4_init 57 = .ok (.putfield 30, 3) := by decide +kernel
theorem dX4_init_60 : decode cX4_init 60 = .ok (.aload_n 0, 1) := by decide +kernel
theorem dX4_init_61 : decode cX4_init 61 = .ok (.bipush 10, 2) := by decide +kernel
theorem dX4_init_63 : decode cX4_init 63 = .ok (.newarray .int, 2) := by decide +kernel
theorem dX4_init_65 : decode cX4_init 65 = .ok (.putfield 33, 3) := by decide +kernel
theorem dX4_init_68 : decode cX4_init 68 = .ok (.aload_n 0, 1) := by decide +kernel
theorem dX4_init_69 : decode cX4_init 69 = .ok (.iconst 3, 1) := by decide +kernel
theorem dX4_init_70 : decode cX4_init 70 = .ok (.newarray .int, 2) := by decide +kernel
theorem dX4_init_72 : decode cX4_init 72 = .ok (.putfield 36, 3) := by decide +kernel
theorem dX4_init_75 : decode cX4_init 75 = .ok (.aload_n 0, 1) := by decide +kernel
theorem dX4_init_76 : decode cX4_init 76 = .ok (.iconst 3, 1) := by decide +kernel
theorem dX4_init_77 : decode cX4_init 77 = .ok (.newarray .int, 2) := by decide +kernel
theorem dX4_init_79 : decode cX4_init 79 = .ok (.putfield 39, 3) := by decide +kernel
theorem dX4_init_82 : decode cX4_init 82 = .ok (.aload_n 0, 1) := by decide +kernel
theorem dX4_init_83 : decode cX4_init 83 = .ok (.iconst 1, 1) := by decide +kernel
theorem dX4_init_84 : decode cX4_init 84 = .ok (.putfield 42, 3) := by decide +kernel
theorem dX4_init_87 : decode cX4_init 87 = .ok (.aload_n 0, 1) := by decide +kernel
theorem dX4_init_88 : decode cX4_init 88 = .ok (.iconst (-1), 1) := by decide +kernel
theorem dX4_init_89 : decode cX4_init 89 = .ok (.putfield 46, 3) := by decide +kernel
theorem dX4_init_92 : decode cX4_init 92 = .ok (.aload_n 0, 1) := by decide +kernel
theorem dX4_init_93 : decode cX4_init 93 = .ok (.aload_n 1, 1) := by decide +kernel
theorem dX4_init_94 : decode cX4_init 94 = .ok (.putfield 49, 3) := by decide +kernel
theorem dX4_init_97 : decode cX4_init 97 = .ok (.aload_n 0, 1) := by decide +kernel
theorem dX4_init_98 : decode cX4_init 98 = .ok (.getfield 9, 3) := by decide +kernel
theorem dX4_init_101 : decode cX4_init 101 = .ok (.bipush 60, 2) := by decide +kernel
theorem dX4_init_103 : decode cX4_init 103 = .ok (.invokestatic 53, 3) := by decide +kernel
theorem dX4_init_106 : decode cX4_init 106 = .ok (.aload_n 0, 1) := by decide +kernel
theorem dX4_init_107 : decode cX4_init 107 = .ok (.getfield 39, 3) := by decide +kernel
theorem dX4_init_110 : decode cX4_init 110 = .ok (.ldc 59, 2) := by decide +kernel
theorem dX4_init_112 : decode cX4_init 112 = .ok (.invokestatic 53, 3) := by decide +kernel
theorem dX4_init_115 : decode cX4_init 115 = .ok (.aload_n 0, 1) := by decide +kernel
theorem dX4_init_116 : decode cX4_init 116 = .ok (.getfield 36, 3) := by decide +kernel
theorem dX4_init_119 : decode cX4_init 119 = .ok (.iconst 0, 1) := by decide +kernel
theorem dX4_init_120 : decode cX4_init 120 = .ok (.iconst 3, 1) := by decide +kernel
theorem dX4_init_121 : decode cX4_init 121 = .ok (.iastore, 1) := by decide +kernel
theorem dX4_init_122 : decode cX4_init 122 = .ok (.aload_n 0, 1) := by decide +kernel
theorem dX4_init_123 : decode cX4_init 123 = .ok (.getfield 36, 3) := by decide +kernel
theorem dX4_init_126 : decode cX4_init 126 = .ok (.iconst 1, 1) := by decide +kernel
theorem dX4_init_127 : decode cX4_init 127 = .ok (.bipush 20, 2) := by decide +kernel
theorem dX4_init_129 : decode cX4_init 129 = .ok (.iastore, 1) := by decide +kernel
theorem dX4_init_130 : decode cX4_init 130 = .ok (.return_, 1) := by decide +kernel
theorem dX4_become_0 : decode cX4_become 0 = .ok (.aload_n 1, 1) := by decide +kernel
theorem dX4_become_1 : decode cX4_become 1 = .ok (.getfield 9, 3) := by decide +kernel
theorem dX4_become_4 : decode cX4_become 4 = .ok (.iconst 0, 1) := by decide +kernel
theorem dX4_become_5 : decode cX4_become 5 = .ok (.aload_n 0, 1) := by decide +kernel
theorem dX4_become_6 : decode cX4_become 6 = .ok (.getfield 9, 3) := by decide +kernel
theorem dX4_become_9 : decode cX4_become 9 = .ok (.iconst 0, 1) := by decide +kernel
theorem dX4_become_10 : decode cX4_become 10 = .ok (.bipush 6, 2) := by decide +kernel
theorem dX4_become_12 : decode cX4_become 12 = .ok (.invokestatic 60, 3) := by decide +kernel
theorem dX4_become_15 : decode cX4_become 15 = .ok (.aload_n 1, 1) := by decide +kernel
theorem dX4_become_16 : decode cX4_become 16 = .ok (.getfield 15, 3) := by decide +kernel
theorem dX4_become_19 : decode cX4_become 19 = .ok (.iconst 0, 1) := by decide +kernel
theorem dX4_become_20 : decode cX4_become 20 = .ok (.aload_n 0, 1) := by decide +kernel
theorem dX4_become_21 : decode cX4_become 21 = .ok (.getfield 15, 3) := by decide +kernel
theorem dX4_become_24 : decode cX4_become 24 = .ok (.iconst 0, 1) := by decide +kernel
theorem dX4_become_25 : decode cX4_become 25 = .ok (.bipush 6, 2) := by decide +kernel
theorem dX4_become_27 : decode cX4_become 27 = .ok (.invokestatic 60, 3) := by decide +kernel
theorem dX4_become_30 : decode cX4_become 30 = .ok (.aload_n 1, 1) := by decide +kernel
theorem dX4_become_31 : decode cX4_become 31 = .ok (.getfield 18, 3) := by decide +kernel
theorem dX4_become_34 : decode cX4_become 34 = .ok (.iconst 0, 1) := by decide +kernel
theorem dX4_become_35 : decode cX4_become 35 = .ok (.aload_n 0, 1) := by decide +kernel
theorem dX4_become_36 : decode cX4_become 36 = .ok (.getfield 18, 3) := by decide +kernel
theorem dX4_become_39 : decode cX4_become 39 = .ok (.iconst 0, 1) := by decide +kernel
theorem dX4_become_40 : decode cX4_become 40 = .ok (.bipush 6, 2) := by decide +kernel
theorem dX4_become_42 : decode cX4_become 42 = .ok (.invokestatic 60, 3) := by decide +kernel
theorem dX4_become_45 : decode cX4_become 45 = .ok (.aload_n 1, 1) := by decide +kernel
theorem dX4_become_46 : decode cX4_become 46 = .ok (.getfield 21, 3) := by decide +kernel
theorem dX4_become_49 : decode cX4_become 49 = .ok (.iconst 0, 1) := by decide +kernel
theorem dX4_become_50 : decode cX4_become 50 = .ok (.aload_n 0, 1) := by decide +kernel
theorem dX4_become_51 : decode cX4_become 51 = .ok (.getfield 21, 3) := by decide +kernel
theorem dX4_become_54 : decode cX4_become 54 = .ok (.iconst 0, 1) := by decide +kernel
theorem dX4_become_55 : decode cX4_become 55 = .ok (.bipush 10, 2) := by decide +kernel
theorem dX4_become_57 : decode cX4_become 57 = .ok (.invokestatic 60, 3) := by decide +kernel
theorem dX4_become_60 : decode cX4_become 60 = .ok (.aload_n 1, 1) := by decide +kernel
theorem dX4_become_61 : decode cX4_become 61 = .ok (.getfield 24, 3) := by decide +kernel
theorem dX4_become_64 : decode cX4_become 64 = .ok (.iconst 0, 1) := by decide +kernel
theorem dX4_become_65 : decode cX4_become 65 = .ok (.aload_n 0, 1) := by decide +kernel
theorem dX4_become_66 : decode cX4_become 66 = .ok (.getfield 24, 3) := by decide +kernel
theorem dX4_become_69 : decode cX4_become 69 = .ok (.iconst 0, 1) := by decide +kernel
theorem dX4_become_70 : decode cX4_become 70 = .ok (.bipush 10, 2) := by decide +kernel
theorem dX4_become_72 : decode cX4_become 72 = .ok (.invokestatic 60, 3) := by decide +kernel
theorem dX4_become_75 : decode cX4_become 75 = .ok (.aload_n 1, 1) := by decide +kernel
theorem dX4_become_76 : decode cX4_become 76 = .ok (.getfield 27, 3) := by decide +kernel
theorem dX4_become_79 : decode cX4_become 79 = .ok (.iconst 0, 1) := by decide +kernel
theorem dX4_become_80 : decode cX4_become 80 = .ok (.aload_n 0, 1) := by decide +kernel
theorem dX4_become_81 : decode cX4_become 81 = .ok (.getfield 27, 3) := by decide +kernel
theorem dX4_become_84 : decode cX4_become 84 = .ok (.iconst 0, 1) := by decide +kernel
theorem dX4_become_85 : decode cX4_become 85 = .ok (.bipush 10, 2) := by decide +kernel
theorem dX4_become_87 : decode cX4_become 87 = .ok (.invokestatic 60, 3) := by decide +kernel
theorem dX4_become_90 : decode cX4_become 90 = .ok (.aload_n 1, 1) := by decide +kernel
theorem dX4_become_91 : decode cX4_become 91 = .ok (.getfield 30, 3) := by decide +kernel
theorem dX4_become_94 : decode cX4_become 94 = .ok (.iconst 0, 1) := by decide +kernel
theorem dX4_become_95 : decode cX4_become 95 = .ok (.aload_n 0, 1) := by decide +kernel
theorem dX4_become_96 : decode cX4_become 96 = .ok (.getfield 30, 3) := by decide +kernel
theorem dX4_become_99 : decode cX4_become 99 = .ok (.iconst 0, 1) := by decide +kernel
theorem dX4_become_100 : decode cX4_become 100 = .ok (.bipush 10, 2) := by decide +kernel
theorem dX4_become_102 : decode cX4_become 102 = .ok (.invokestatic 60, 3) := by decide +kernel
theorem dX4_become_105 : decode cX4_become 105 = .ok (.aload_n 1, 1) := by decide +kernel
theorem dX4_become_106 : decode cX4_become 106 = .ok (.getfield 33, 3) := by decide +kernel
theorem dX4_become_109 : decode cX4_become 109 = .ok (.iconst 0, 1) := by decide +kernel
theorem dX4_become_110 : decode cX4_become 110 = .ok (.aload_n 0, 1) := by decide +kernel
theorem dX4_become_111 : decode cX4_become 111 = .ok (.getfield 33, 3) := by decide +kernel
theorem dX4_become_114 : decode cX4_become 114 = .ok (.iconst 0, 1) := by decide +kernel
theorem dX4_become_115 : decode cX4_become 115 = .ok (.bipush 10, 2) := by decide +kernel
theorem dX4_become_117 : decode cX4_become 117 = .ok (.invokestatic 60, 3) := by decide +kernel
theorem dX4_become_120 : decode cX4_become 120 = .ok (.aload_n 1, 1) := by decide +kernel
theorem dX4_become_121 : decode cX4_become 121 = .ok (.getfield 36, 3) := by decide +kernel
theorem dX4_become_124 : decode cX4_become 124 = .ok (.iconst 0, 1) := by decide +kernel
theorem dX4_become_125 : decode cX4_become 125 = .ok (.aload_n 0, 1) := by decide +kernel
theorem dX4_become_126 : decode cX4_become 126 = .ok (.getfield 36, 3) := by decide +kernel
theorem dX4_become_129 : decode cX4_become 129 = .ok (.iconst 0, 1) := by decide +kernel
theorem dX4_become_130 : decode cX4_become 130 = .ok (.iconst 3, 1) := by decide +kernel
theorem dX4_become_131 : decode cX4_become 131 = .ok (.invokestatic 60, 3) := by decide +kernel
theorem dX4_become_134 : decode cX4_become 134 = .ok (.aload_n 1, 1) := by decide +kernel
theorem dX4_become_135 : decode cX4_become 135 = .ok (.getfield 39, 3) := by decide +kernel
theorem dX4_become_138 : decode cX4_become 138 = .ok (.iconst 0, 1) := by decide +kernel
theorem dX4_become_139 : decode cX4_become 139 = .ok (.aload_n 0, 1) := by decide +kernel
theorem dX4_become_140 : decode cX4_become 140 = .ok (.getfield 39, 3) := by decide +kernel
theorem dX4_become_143 : decode cX4_become 143 = .ok (.iconst 0, 1) := by decide +kernel
theorem dX4_become_144 : decode cX4_become 144 = .ok (.iconst 3, 1) := by decide +kernel
theorem dX4_become_145 : decode cX4_become 145 = .ok (.invokestatic 60, 3) := by decide +kernel
theorem dX4_become_148 : decode cX4_become 148 = .ok (.aload_n 0, 1) := by decide +kernel
theorem dX4_become_149 : decode cX4_become 149 = .ok (.aload_n 1, 1) := by decide +kernel
theorem dX4_become_150 : decode cX4_become 150 = .ok (.getfield 66, 3) := by decide +kernel
theorem dX4_become_153 : decode cX4_become 153 = .ok (.putfield 66, 3) := by decide +kernel
theorem dX4_become_156 : decode cX4_become 156 = .ok (.aload_n 0, 1) := by decide +kernel
theorem dX4_become_157 : decode cX4_become 157 = .ok (.aload_n 1, 1) := by decide +kernel
theorem dX4_become_158 : decode cX4_become 158 = .ok (.getfield 69, 3) := by decide +kernel
theorem dX4_become_161 : decode cX4_become 161 = .ok (.putfield 69, 3) := by decide +kernel
theorem dX4_become_164 : decode cX4_become 164 = .ok (.aload_n 0, 1) := by decide +kernel
theorem dX4_become_165 : decode cX4_become 165 = .ok (.aload_n 1, 1) := by decide +kernel
theorem dX4_become_166 : decode cX4_become 166 = .ok (.getfield 72, 3) := by decide +kernel
theorem dX4_become_169 : decode cX4_become 169 = .ok (.putfield 72, 3) := by decide +kernel
theorem dX4_become_172 : decode cX4_become 172 = .ok (.aload_n 0, 1) := by decide +kernel
theorem dX4_become_173 : decode cX4_become 173 = .ok (.aload_n 1, 1) := by decide +kernel
theorem dX4_become_174 : decode cX4_become 174 = .ok (.getfield 75, 3) := by decide +kernel
theorem dX4_become_177 : decode cX4_become 177 = .ok (.putfield 75, 3) := by decide +kernel
theorem dX4_become_180 : decode cX4_become 180 = .ok (.aload_n 0, 1) := by decide +kernel
theorem dX4_become_181 : decode cX4_become 181 = .ok (.aload_n 1, 1) := by decide +kernel
theorem dX4_become_182 : decode cX4_become 182 = .ok (.getfield 42, 3) := by decide +kernel
theorem dX4_become_185 : decode cX4_become 185 = .ok (.putfield 42, 3) := by decide +kernel
theorem dX4_become_188 : decode cX4_become 188 = .ok (.aload_n 0, 1) := by decide +kernel
theorem dX4_become_189 : decode cX4_become 189 = .ok (.aload_n 1, 1) := by decide +kernel
theorem dX4_become_190 : decode cX4_become 190 = .ok (.getfield 78, 3) := by decide +kernel
theorem dX4_become_193 : decode cX4_become 193 = .ok (.putfield 78, 3) := by decide +kernel
theorem dX4_become_196 : decode cX4_become 196 = .ok (.return_, 1) := by decide +kernel
theorem dX4_add_0 : decode cX4_add 0 = .ok (.aload_n 0, 1) := by decide +kernel
theorem dX4_add_1 : decode cX4_add 1 = .ok (.getfield 66, 3) := by decide +kernel
theorem dX4_add_4 : decode cX4_add 4 = .ok (.bipush 10, 2) := by decide +kernel
theorem dX4_add_6 : decode cX4_add 6 = .ok (.if_icmp .lt 6, 3) := by decide +kernel
theorem dX4_add_9 : decode cX4_add 9 = .ok (.ldc 81, 2) := by decide +kernel
theorem dX4_add_11 : decode cX4_add 11 = .ok (.ireturn, 1) := by decide +kernel
theorem dX4_add_12 : decode cX4_add 12 = .ok (.aload_n 0, 1) := by decide +kernel
theorem dX4_add_13 : decode cX4_add 13 = .ok (.getfield 66, 3) := by decide +kernel
theorem dX4_add_16 : decode cX4_add 16 = .ok (.istore 5, 2) := by decide +kernel
theorem dX4_add_18 : decode cX4_add 18 = .ok (.aload_n 0, 1) := by decide +kernel
theorem dX4_add_19 : decode cX4_add 19 = .ok (.getfield 21, 3) := by decide +kernel
theorem dX4_add_22 : decode cX4_add 22 = .ok (.iload 5, 2) := by decide +kernel
theorem dX4_add_24 : decode cX4_add 24 = .ok (.iload_n 1, 1) := by decide +kernel
theorem dX4_add_25 : decode cX4_add 25 = .ok (.iastore, 1) := by decide +kernel
theorem dX4_add_26 : decode cX4_add 26 = .ok (.aload_n 0, 1) := by decide +kernel
theorem dX4_add_27 : decode cX4_add 27 = .ok (.getfield 24, 3) := by decide +kernel
theorem dX4_add_30 : decode cX4_add 30 = .ok (.iload 5, 2) := by decide +kernel
theorem dX4_add_32 : decode cX4_add 32 = .ok (.iload_n 2, 1) := by decide +kernel
theorem dX4_add_33 : decode cX4_add 33 = .ok (.iastore, 1) := by decide +kernel
theorem dX4_add_34 : decode cX4_add 34 = .ok (.aload_n 0, 1) := by decide +kernel
theorem dX4_add_35 : decode cX4_add 35 = .ok (.getfield 27, 3) := by decide +kernel
theorem dX4_add_38 : decode cX4_add 38 = .ok (.iload 5, 2) := by decide +kernel
theorem dX4_add_40 : decode cX4_add 40 = .ok (.iload_n 3, 1) := by decide +kernel
theorem dX4_add_41 : decode cX4_add 41 = .ok (.iastore, 1) := by decide +kernel
theorem dX4_add_42 : decode cX4_add 42 = .ok (.aload_n 0, 1) := by decide +kernel
theorem dX4_add_43 : decode cX4_add 43 = .ok (.getfield 30, 3) := by decide +kernel
theorem dX4_add_46 : decode cX4_add 46 = .ok (.iload 5, 2) := by decide +kernel
theorem dX4_add_48 : decode cX4_add 48 = .ok (.iload 4, 2) := by decide +kernel
theorem dX4_add_50 : decode cX4_add 50 = .ok (.iastore, 1) := by decide +kernel
theorem dX4_add_51 : decode cX4_add 51 = .ok (.aload_n 0, 1) := by decide +kernel
theorem dX4_add_52 : decode cX4_add 52 = .ok (.getfield 33, 3) := by decide +kernel
theorem dX4_add_55 : decode cX4_add 55 = .ok (.iload 5, 2) := by decide +kernel
theorem dX4_add_57 : decode cX4_add 57 = .ok (.iconst 0, 1) := by decide +kernel
theorem dX4_add_58 : decode cX4_add 58 = .ok (.iastore, 1) := by decide +kernel
theorem dX4_add_59 : decode cX4_add 59 = .ok (.aload_n 0, 1) := by decide +kernel
theorem dX4_add_60 : decode cX4_add 60 = .ok (.getfield 18, 3) := by decide +kernel
theorem dX4_add_63 : decode cX4_add 63 = .ok (.iload 4, 2) := by decide +kernel
theorem dX4_add_65 : decode cX4_add 65 = .ok (.dup2, 1) := by decide +kernel
theorem dX4_add_66 : decode cX4_add 66 = .ok (.iaload, 1) := by decide +kernel
theorem dX4_add_67 : decode cX4_add 67 = .ok (.iconst 1, 1) := by decide +kernel
theorem dX4_add_68 : decode cX4_add 68 = .ok (.iadd, 1) := by decide +kernel
theorem dX4_add_69 : decode cX4_add 69 = .ok (.iastore, 1) := by decide +kernel
theorem dX4_add_70 : decode cX4_add 70 = .ok (.aload_n 0, 1) := by decide +kernel
theorem dX4_add_71 : decode cX4_add 71 = .ok (.dup, 1) := by decide +kernel
theorem dX4_add_72 : decode cX4_add 72 = .ok (.getfield 66, 3) := by decide +kernel
theorem dX4_add_75 : decode cX4_add 75 = .ok (.iconst 1, 1) := by decide +kernel
theorem dX4_add_76 : decode cX4_add 76 = .ok (.iadd, 1) := by decide +kernel
theorem dX4_add_77 : decode cX4_add 77 = .ok (.putfield 66, 3) := by decide +kernel
theorem dX4_add_80 : decode cX4_add 80 = .ok (.iload 5, 2) := by decide +kernel
theorem dX4_add_82 : decode cX4_add 82 = .ok (.ireturn, 1) := by decide +kernel
theorem dX4_moveTo_0 : decode cX4_moveTo 0 = .ok (.aload_n 0, 1) := by decide +kernel
theorem dX4_moveTo_1 : decode cX4_moveTo 1 = .ok (.getfield 30, 3) := by decide +kernel
theorem dX4_moveTo_4 : decode cX4_moveTo 4 = .ok (.iload_n 1, 1) := by decide +kernel
theorem dX4_moveTo_5 : decode cX4_moveTo 5 = .ok (.iaload, 1) := by decide +kernel
theorem dX4_moveTo_6 : decode cX4_moveTo 6 = .ok (.istore_n 3, 1) := by decide +kernel
theorem dX4_moveTo_7 : decode cX4_moveTo 7 = .ok (.aload_n 0, 1) := by decide +kernel
theorem dX4_moveTo_8 : decode cX4_moveTo 8 = .ok (.getfield 18, 3) := by decide +kernel
theorem dX4_moveTo_11 : decode cX4_moveTo 11 = .ok (.iload_n 3, 1) := by decide +kernel
theorem dX4_moveTo_12 : decode cX4_moveTo 12 = .ok (.dup2, 1) := by decide +kernel
theorem dX4_moveTo_13 : decode cX4_moveTo 13 = .ok (.iaload, 1) := by decide +kernel
theorem dX4_moveTo_14 : decode cX4_moveTo 14 = .ok (.iconst 1, 1) := by decide +kernel
theorem dX4_moveTo_15 : decode cX4_moveTo 15 = .ok (.isub, 1) := by decide +kernel
theorem dX4_moveTo_16 : decode cX4_moveTo 16 = .ok (.iastore, 1) := by decide +kernel
theorem dX4_moveTo_17 : decode cX4_moveTo 17 = .ok (.aload_n 0, 1) := by decide +kernel
theorem dX4_moveTo_18 : decode cX4_moveTo 18 = .ok (.getfield 18, 3) := by decide +kernel
theorem dX4_moveTo_21 : decode cX4_moveTo 21 = .ok (.iload_n 2, 1) := by decide +kernel
theorem dX4_moveTo_22 : decode cX4_moveTo 22 = .ok (.dup2, 1) := by decide +kernel
theorem dX4_moveTo_23 : decode cX4_moveTo 23 = .ok (.iaload, 1) := by decide +kernel
theorem dX4_moveTo_24 : decode cX4_moveTo 24 = .ok (.iconst 1, 1) := by decide +kernel
theorem dX4_moveTo_25 : decode cX4_moveTo 25 = .ok (.iadd, 1) := by decide +kernel
theorem dX4_moveTo_26 : decode cX4_moveTo 26 = .ok (.iastore, 1) := by decide +kernel
theorem dX4_moveTo_27 : decode cX4_moveTo 27 = .ok (.aload_n 0, 1) := by decide +kernel
theorem dX4_moveTo_28 : decode cX4_moveTo 28 = .ok (.getfield 30, 3) := by decide +kernel
theorem dX4_moveTo_31 : decode cX4_moveTo 31 = .ok (.iload_n 1, 1) := by decide +kernel
theorem dX4_moveTo_32 : decode cX4_moveTo 32 = .ok (.iload_n 2, 1) := by decide +kernel
theorem dX4_moveTo_33 : decode cX4_moveTo 33 = .ok (.iastore, 1) := by decide +kernel
theorem dX4_moveTo_34 : decode cX4_moveTo 34 = .ok (.iload_n 3, 1) := by decide +kernel
theorem dX4_moveTo_35 : decode cX4_moveTo 35 = .ok (.ireturn, 1) := by decide +kernel
theorem dX4_leaveOnly_0 : decode cX4_leaveOnly 0 = .ok (.aload_n 0, 1) := by decide +kernel
theorem dX4_leaveOnly_1 : decode cX4_leaveOnly 1 = .ok (.getfield 21, 3) := by decide +kernel
theorem dX4_leaveOnly_4 : decode cX4_leaveOnly 4 = .ok (.iconst 0, 1) := by decide +kernel
theorem dX4_leaveOnly_5 : decode cX4_leaveOnly 5 = .ok (.aload_n 0, 1) := by decide +kernel
theorem dX4_leaveOnly_6 : decode cX4_leaveOnly 6 = .ok (.getfield 21, 3) := by decide +kernel
theorem dX4_leaveOnly_9 : decode cX4_leaveOnly 9 = .ok (.iload_n 1, 1) := by decide +kernel
theorem dX4_leaveOnly_10 : decode cX4_leaveOnly 10 = .ok (.iaload, 1) := by decide +kernel
theorem dX4_leaveOnly_11 : decode cX4_leaveOnly 11 = .ok (.iastore, 1) := by decide +kernel
theorem dX4_leaveOnly_12 : decode cX4_leaveOnly 12 = .ok (.aload_n 0, 1) := by decide +kernel
theorem dX4_leaveOnly_13 : decode cX4_leaveOnly 13 = .ok (.getfield 24, 3) := by decide +kernel
theorem dX4_leaveOnly_16 : decode cX4_leaveOnly 16 = .ok (.iconst 0, 1) := by decide +kernel
theorem dX4_leaveOnly_17 : decode cX4_leaveOnly 17 = .ok (.aload_n 0, 1) := by decide +kernel
theorem dX4_leaveOnly_18 : decode cX4_leaveOnly 18 = .ok (.getfield 24, 3) := by decide +kernel
theorem dX4_leaveOnly_21 : decode cX4_leaveOnly 21 = .ok (.iload_n 1, 1) := by decide +kernel
theorem dX4_leaveOnly_22 : decode cX4_leaveOnly 22 = .ok (.iaload, 1) := by decide +kernel
theorem dX4_leaveOnly_23 : decode cX4_leaveOnly 23 = .ok (.iastore, 1) := by decide +kernel
theorem dX4_leaveOnly_24 : decode cX4_leaveOnly 24 = .ok (.aload_n 0, 1) := by decide +kernel
theorem dX4_leaveOnly_25 : decode cX4_leaveOnly 25 = .ok (.getfield 27, 3) := by decide +kernel
theorem dX4_leaveOnly_28 : decode cX4_leaveOnly 28 = .ok (.iconst 0, 1) := by decide +kernel
theorem dX4_leaveOnly_29 : decode cX4_leaveOnly 29 = .ok (.aload_n 0, 1) := by decide +kernel
theorem dX4_leaveOnly_30 : decode cX4_leaveOnly 30 = .ok (.getfield 27, 3) := by decide +kernel
theorem dX4_leaveOnly_33 : decode cX4_leaveOnly 33 = .ok (.iload_n 1, 1) := by decide +kernel
theorem dX4_leaveOnly_34 : decode cX4_leaveOnly 34 = .ok (.iaload, 1) := by decide +kernel
theorem dX4_leaveOnly_35 : decode cX4_leaveOnly 35 = .ok (.iastore, 1) := by decide +kernel
theorem dX4_leaveOnly_36 : decode cX4_leaveOnly 36 = .ok (.aload_n 0, 1) := by decide +kernel
theorem dX4_leaveOnly_37 : decode cX4_leaveOnly 37 = .ok (.getfield 30, 3) := by decide +kernel
theorem dX4_leaveOnly_40 : decode cX4_leaveOnly 40 = .ok (.iconst 0, 1) := by decide +kernel
theorem dX4_leaveOnly_41 : decode cX4_leaveOnly 41 = .ok (.aload_n 0, 1) := by decide +kernel
theorem dX4_leaveOnly_42 : decode cX4_leaveOnly 42 = .ok (.getfield 30, 3) := by decide +kernel
theorem dX4_leaveOnly_45 : decode cX4_leaveOnly 45 = .ok (.iload_n 1, 1) := by decide +kernel
theorem dX4_leaveOnly_46 : decode cX4_leaveOnly 46 = .ok (.iaload, 1) := by decide +kernel
theorem dX4_leaveOnly_47 : decode cX4_leaveOnly 47 = .ok (.iastore, 1) := by decide +kernel
theorem dX4_leaveOnly_48 : decode cX4_leaveOnly 48 = .ok (.aload_n 0, 1) := by decide +kernel
theorem dX4_leaveOnly_49 : decode cX4_leaveOnly 49 = .ok (.getfield 33, 3) := by decide +kernel
theorem dX4_leaveOnly_52 : decode cX4_leaveOnly 52 = .ok (.iconst 0, 1) := by decide +kernel
theorem dX4_leaveOnly_53 : decode cX4_leaveOnly 53 = .ok (.aload_n 0, 1) := by decide +kernel
theorem dX4_leaveOnly_54 : decode cX4_leaveOnly 54 = .ok (.getfield 33, 3) := by decide +kernel
theorem dX4_leaveOnly_57 : decode cX4_leaveOnly 57 = .ok (.iload_n 1, 1) := by decide +kernel
theorem dX4_leaveOnly_58 : decode cX4_leaveOnly 58 = .ok (.iaload, 1) := by decide +kernel
theorem dX4_leaveOnly_59 : decode cX4_leaveOnly 59 = .ok (.iastore, 1) := by decide +kernel
theorem dX4_leaveOnly_60 : decode cX4_leaveOnly 60 = .ok (.aload_n 0, 1) := by decide +kernel
theorem dX4_leaveOnly_61 : decode cX4_leaveOnly 61 = .ok (.iconst 1, 1) := by decide +kernel
theorem dX4_leaveOnly_62 : decode cX4_leaveOnly 62 = .ok (.putfield 66, 3) := by decide +kernel
theorem dX4_leaveOnly_65 : decode cX4_leaveOnly 65 = .ok (.return_, 1) := by decide +kernel
theorem dX4_leaveNone_0 : decode cX4_leaveNone 0 = .ok (.aload_n 0, 1) := by decide +kernel
theorem dX4_leaveNone_1 : decode cX4_leaveNone 1 = .ok (.iconst 0, 1) := by decide +kernel
theorem dX4_leaveNone_2 : decode cX4_leaveNone 2 = .ok (.putfield 66, 3) := by decide +kernel
theorem dX4_leaveNone_5 : decode cX4_leaveNone 5 = .ok (.return_, 1) := by decide +kernel
theorem dX4_draw_0 : decode cX4_draw 0 = .ok (.aload_n 0, 1) := by decide +kernel
theorem dX4_draw_1 : decode cX4_draw 1 = .ok (.aload_n 0, 1) := by decide +kernel
theorem dX4_draw_2 : decode cX4_draw 2 = .ok (.getfield 42, 3) := by decide +kernel
theorem dX4_draw_5 : decode cX4_draw 5 = .ok (.ldc 82, 2) := by decide +kernel
theorem dX4_draw_7 : decode cX4_draw 7 = .ok (.imul, 1) := by decide +kernel
theorem dX4_draw_8 : decode cX4_draw 8 = .ok (.sipush 12345, 3) := by decide +kernel
theorem dX4_draw_11 : decode cX4_draw 11 = .ok (.iadd, 1) := by decide +kernel
theorem dX4_draw_12 : decode cX4_draw 12 = .ok (.putfield 42, 3) := by decide +kernel
theorem dX4_draw_15 : decode cX4_draw 15 = .ok (.aload_n 0, 1) := by decide +kernel
theorem dX4_draw_16 : decode cX4_draw 16 = .ok (.getfield 42, 3) := by decide +kernel
theorem dX4_draw_19 : decode cX4_draw 19 = .ok (.bipush 8, 2) := by decide +kernel
theorem dX4_draw_21 : decode cX4_draw 21 = .ok (.iushr, 1) := by decide +kernel
theorem dX4_draw_22 : decode cX4_draw 22 = .ok (.ireturn, 1) := by decide +kernel
theorem dX4_plain_0 : decode cX4_plain 0 = .ok (.aload_n 0, 1) := by decide +kernel
theorem dX4_plain_1 : decode cX4_plain 1 = .ok (.getfield 39, 3) := by decide +kernel
theorem dX4_plain_4 : decode cX4_plain 4 = .ok (.iconst 0, 1) := by decide +kernel
theorem dX4_plain_5 : decode cX4_plain 5 = .ok (.iaload, 1) := by decide +kernel
theorem dX4_plain_6 : decode cX4_plain 6 = .ok (.istore_n 2, 1) := by decide +kernel
theorem dX4_plain_7 : decode cX4_plain 7 = .ok (.aload_n 0, 1) := by decide +kernel
theorem dX4_plain_8 : decode cX4_plain 8 = .ok (.getfield 30, 3) := by decide +kernel
theorem dX4_plain_11 : decode cX4_plain 11 = .ok (.iload_n 1, 1) := by decide +kernel
theorem dX4_plain_12 : decode cX4_plain 12 = .ok (.iaload, 1) := by decide +kernel
theorem dX4_plain_13 : decode cX4_plain 13 = .ok (.istore_n 3, 1) := by decide +kernel
theorem dX4_plain_14 : decode cX4_plain 14 = .ok (.iload_n 2, 1) := by decide +kernel
theorem dX4_plain_15 : decode cX4_plain 15 = .ok (.ldc 59, 2) := by decide +kernel
theorem dX4_plain_17 : decode cX4_plain 17 = .ok (.if_icmp .ne 19, 3) := by decide +kernel
theorem dX4_plain_20 : decode cX4_plain 20 = .ok (.aload_n 0, 1) := by decide +kernel
theorem dX4_plain_21 : decode cX4_plain 21 = .ok (.getfield 24, 3) := by decide +kernel
theorem dX4_plain_24 : decode cX4_plain 24 = .ok (.iload_n 1, 1) := by decide +kernel
theorem dX4_plain_25 : decode cX4_plain 25 = .ok (.iaload, 1) := by decide +kernel
theorem dX4_plain_26 : decode cX4_plain 26 = .ok (.aload_n 0, 1) := by decide +kernel
theorem dX4_plain_27 : decode cX4_plain 27 = .ok (.getfield 27, 3) := by decide +kernel
theorem dX4_plain_30 : decode cX4_plain 30 = .ok (.iload_n 1, 1) := by decide +kernel
theorem dX4_plain_31 : decode cX4_plain 31 = .ok (.iaload, 1) := by decide +kernel
theorem dX4_plain_32 : decode cX4_plain 32 = .ok (.isub, 1) := by decide +kernel
theorem dX4_plain_33 : decode cX4_plain 33 = .ok (.goto 35, 3) := by decide +kernel
theorem dX4_plain_36 : decode cX4_plain 36 = .ok (.aload_n 0, 1) := by decide +kernel
theorem dX4_plain_37 : decode cX4_plain 37 = .ok (.getfield 49, 3) := by decide +kernel
theorem dX4_plain_40 : decode cX4_plain 40 = .ok (.iload_n 2, 1) := by decide +kernel
theorem dX4_plain_41 : decode cX4_plain 41 = .ok (.aload_n 0, 1) := by decide +kernel
theorem dX4_plain_42 : decode cX4_plain 42 = .ok (.getfield 24, 3) := by decide +kernel
theorem dX4_plain_45 : decode cX4_plain 45 = .ok (.iload_n 1, 1) := by decide +kernel
theorem dX4_plain_46 : decode cX4_plain 46 = .ok (.iaload, 1) := by decide +kernel
theorem dX4_plain_47 : decode cX4_plain 47 = .ok (.aload_n 0, 1) := by decide +kernel
theorem dX4_plain_48 : decode cX4_plain 48 = .ok (.getfield 27, 3) := by decide +kernel
theorem dX4_plain_51 : decode cX4_plain 51 = .ok (.iload_n 1, 1) := by decide +kernel
theorem dX4_plain_52 : decode cX4_plain 52 = .ok (.iaload, 1) := by decide +kernel
theorem dX4_plain_53 : decode cX4_plain 53 = .ok (.aload_n 0, 1) := by decide +kernel
theorem dX4_plain_54 : decode cX4_plain 54 = .ok (.getfield 15, 3) := by decide +kernel
theorem dX4_plain_57 : decode cX4_plain 57 = .ok (.iload_n 3, 1) := by decide +kernel
theorem dX4_plain_58 : decode cX4_plain 58 = .ok (.iaload, 1) := by decide +kernel
theorem dX4_plain_59 : decode cX4_plain 59 = .ok (.aload_n 0, 1) := by decide +kernel
theorem dX4_plain_60 : decode cX4_plain 60 = .ok (.getfield 18, 3) := by decide +kernel
theorem dX4_plain_63 : decode cX4_plain 63 = .ok (.iload_n 3, 1) := by decide +kernel
theorem dX4_plain_64 : decode cX4_plain 64 = .ok (.iaload, 1) := by decide +kernel
theorem dX4_plain_65 : decode cX4_plain 65 = .ok (.invokevirtual 83, 3) := by decide +kernel
theorem dX4_plain_68 : decode cX4_plain 68 = .ok (.istore 4, 2) := by decide +kernel
theorem dX4_plain_70 : decode cX4_plain 70 = .ok (.iload 4, 2) := by decide +kernel
theorem dX4_plain_72 : decode cX4_plain 72 = .ok (.bipush 99, 2) := by decide +kernel
theorem dX4_plain_74 : decode cX4_plain 74 = .ok (.invokestatic 89, 3) := by decide +kernel
theorem dX4_plain_77 : decode cX4_plain 77 = .ok (.ireturn, 1) := by decide +kernel
theorem dX4_shows_0 : decode cX4_shows 0 = .ok (.aload_n 0, 1) := by decide +kernel
theorem dX4_shows_1 : decode cX4_shows 1 = .ok (.getfield 18, 3) := by decide +kernel
theorem dX4_shows_4 : decode cX4_shows 4 = .ok (.aload_n 0, 1) := by decide +kernel
theorem dX4_shows_5 : decode cX4_shows 5 = .ok (.getfield 30, 3) := by decide +kernel
theorem dX4_shows_8 : decode cX4_shows 8 = .ok (.iload_n 1, 1) := by decide +kernel
theorem dX4_shows_9 : decode cX4_shows 9 = .ok (.iaload, 1) := by decide +kernel
theorem dX4_shows_10 : decode cX4_shows 10 = .ok (.iaload, 1) := by decide +kernel
theorem dX4_shows_11 : decode cX4_shows 11 = .ok (.iconst 1, 1) := by decide +kernel
theorem dX4_shows_12 : decode cX4_shows 12 = .ok (.isub, 1) := by decide +kernel
theorem dX4_shows_13 : decode cX4_shows 13 = .ok (.istore_n 2, 1) := by decide +kernel
theorem dX4_shows_14 : decode cX4_shows 14 = .ok (.aload_n 0, 1) := by decide +kernel
theorem dX4_shows_15 : decode cX4_shows 15 = .ok (.getfield 21, 3) := by decide +kernel
theorem dX4_shows_18 : decode cX4_shows 18 = .ok (.iload_n 1, 1) := by decide +kernel
theorem dX4_shows_19 : decode cX4_shows 19 = .ok (.iaload, 1) := by decide +kernel
theorem dX4_shows_20 : decode cX4_shows 20 = .ok (.tableswitch 104 1 5 #[36, 64, 49, 79, 101], 36) := by decide +kernel
theorem dX4_shows_56 : decode cX4_shows 56 = .ok (.bipush 99, 2) := by decide +kernel
theorem dX4_shows_58 : decode cX4_shows 58 = .ok (.aload_n 0, 1) := by decide +kernel
theorem dX4_shows_59 : decode cX4_shows 59 = .ok (.iload_n 1, 1) := by decide +kernel
theorem dX4_shows_60 : decode cX4_shows 60 = .ok (.invokevirtual 93, 3) := by decide +kernel
theorem dX4_shows_63 : decode cX4_shows 63 = .ok (.iconst 5, 1) := by decide +kernel
theorem dX4_shows_64 : decode cX4_shows 64 = .ok (.iadd, 1) := by decide +kernel
theorem dX4_shows_65 : decode cX4_shows 65 = .ok (.invokestatic 97, 3) := by decide +kernel
theorem dX4_shows_68 : decode cX4_shows 68 = .ok (.ireturn, 1) := by decide +kernel
theorem dX4_shows_69 : decode cX4_shows 69 = .ok (.bipush 99, 2) := by decide +kernel
theorem dX4_shows_71 : decode cX4_shows 71 = .ok (.aload_n 0, 1) := by decide +kernel
theorem dX4_shows_72 : decode cX4_shows 72 = .ok (.iload_n 1, 1) := by decide +kernel
theorem dX4_shows_73 : decode cX4_shows 73 = .ok (.invokevirtual 93, 3) := by decide +kernel
theorem dX4_shows_76 : decode cX4_shows 76 = .ok (.iconst 5, 1) := by decide +kernel
theorem dX4_shows_77 : decode cX4_shows 77 = .ok (.iadd, 1) := by decide +kernel
theorem dX4_shows_78 : decode cX4_shows 78 = .ok (.invokestatic 97, 3) := by decide +kernel
theorem dX4_shows_81 : decode cX4_shows 81 = .ok (.iconst 2, 1) := by decide +kernel
theorem dX4_shows_82 : decode cX4_shows 82 = .ok (.idiv, 1) := by decide +kernel
theorem dX4_shows_83 : decode cX4_shows 83 = .ok (.ireturn, 1) := by decide +kernel
theorem dX4_shows_84 : decode cX4_shows 84 = .ok (.bipush 99, 2) := by decide +kernel
theorem dX4_shows_86 : decode cX4_shows 86 = .ok (.aload_n 0, 1) := by decide +kernel
theorem dX4_shows_87 : decode cX4_shows 87 = .ok (.iload_n 1, 1) := by decide +kernel
theorem dX4_shows_88 : decode cX4_shows 88 = .ok (.invokevirtual 93, 3) := by decide +kernel
theorem dX4_shows_91 : decode cX4_shows 91 = .ok (.iconst 2, 1) := by decide +kernel
theorem dX4_shows_92 : decode cX4_shows 92 = .ok (.iload_n 2, 1) := by decide +kernel
theorem dX4_shows_93 : decode cX4_shows 93 = .ok (.imul, 1) := by decide +kernel
theorem dX4_shows_94 : decode cX4_shows 94 = .ok (.iadd, 1) := by decide +kernel
theorem dX4_shows_95 : decode cX4_shows 95 = .ok (.invokestatic 97, 3) := by decide +kernel
theorem dX4_shows_98 : decode cX4_shows 98 = .ok (.ireturn, 1) := by decide +kernel
theorem dX4_shows_99 : decode cX4_shows 99 = .ok (.iconst 0, 1) := by decide +kernel
theorem dX4_shows_100 : decode cX4_shows 100 = .ok (.bipush 99, 2) := by decide +kernel
theorem dX4_shows_102 : decode cX4_shows 102 = .ok (.aload_n 0, 1) := by decide +kernel
theorem dX4_shows_103 : decode cX4_shows 103 = .ok (.iload_n 1, 1) := by decide +kernel
theorem dX4_shows_104 : decode cX4_shows 104 = .ok (.invokevirtual 93, 3) := by decide +kernel
theorem dX4_shows_107 : decode cX4_shows 107 = .ok (.iconst 2, 1) := by decide +kernel
theorem dX4_shows_108 : decode cX4_shows 108 = .ok (.iload_n 2, 1) := by decide +kernel
theorem dX4_shows_109 : decode cX4_shows 109 = .ok (.imul, 1) := by decide +kernel
theorem dX4_shows_110 : decode cX4_shows 110 = .ok (.iadd, 1) := by decide +kernel
theorem dX4_shows_111 : decode cX4_shows 111 = .ok (.invokestatic 97, 3) := by decide +kernel
theorem dX4_shows_114 : decode cX4_shows 114 = .ok (.bipush 10, 2) := by decide +kernel
theorem dX4_shows_116 : decode cX4_shows 116 = .ok (.isub, 1) := by decide +kernel
theorem dX4_shows_117 : decode cX4_shows 117 = .ok (.invokestatic 102, 3) := by decide +kernel
theorem dX4_shows_120 : decode cX4_shows 120 = .ok (.ireturn, 1) := by decide +kernel
theorem dX4_shows_121 : decode cX4_shows 121 = .ok (.bipush 20, 2) := by decide +kernel
theorem dX4_shows_123 : decode cX4_shows 123 = .ok (.ireturn, 1) := by decide +kernel
theorem dX4_shows_124 : decode cX4_shows 124 = .ok (.aload_n 0, 1) := by decide +kernel
theorem dX4_shows_125 : decode cX4_shows 125 = .ok (.iload_n 1, 1) := by decide +kernel
theorem dX4_shows_126 : decode cX4_shows 126 = .ok (.invokevirtual 93, 3) := by decide +kernel
theorem dX4_shows_129 : decode cX4_shows 129 = .ok (.ireturn, 1) := by decide +kernel
theorem dX4_sinks_0 : decode cX4_sinks 0 = .ok (.aload_n 0, 1) := by decide +kernel
theorem dX4_sinks_1 : decode cX4_sinks 1 = .ok (.getfield 9, 3) := by decide +kernel
theorem dX4_sinks_4 : decode cX4_sinks 4 = .ok (.aload_n 0, 1) := by decide +kernel
theorem dX4_sinks_5 : decode cX4_sinks 5 = .ok (.getfield 30, 3) := by decide +kernel
theorem dX4_sinks_8 : decode cX4_sinks 8 = .ok (.iload_n 1, 1) := by decide +kernel
theorem dX4_sinks_9 : decode cX4_sinks 9 = .ok (.iaload, 1) := by decide +kernel
theorem dX4_sinks_10 : decode cX4_sinks 10 = .ok (.iaload, 1) := by decide +kernel
theorem dX4_sinks_11 : decode cX4_sinks 11 = .ok (.bipush 30, 2) := by decide +kernel
theorem dX4_sinks_13 : decode cX4_sinks 13 = .ok (.if_icmp .ge 7, 3) := by decide +kernel
theorem dX4_sinks_16 : decode cX4_sinks 16 = .ok (.iconst 1, 1) := by decide +kernel
theorem dX4_sinks_17 : decode cX4_sinks 17 = .ok (.goto 4, 3) := by decide +kernel
theorem dX4_sinks_20 : decode cX4_sinks 20 = .ok (.iconst 0, 1) := by decide +kernel
theorem dX4_sinks_21 : decode cX4_sinks 21 = .ok (.istore_n 2, 1) := by decide +kernel
theorem dX4_sinks_22 : decode cX4_sinks 22 = .ok (.aload_n 0, 1) := by decide +kernel
theorem dX4_sinks_23 : decode cX4_sinks 23 = .ok (.getfield 21, 3) := by decide +kernel
theorem dX4_sinks_26 : decode cX4_sinks 26 = .ok (.iload_n 1, 1) := by decide +kernel
theorem dX4_sinks_27 : decode cX4_sinks 27 = .ok (.iaload, 1) := by decide +kernel
theorem dX4_sinks_28 : decode cX4_sinks 28 = .ok (.tableswitch 46 2 5 #[34, 32, 38, 44], 32) := by decide +kernel
theorem dX4_sinks_60 : decode cX4_sinks 60 = .ok (.iconst 2, 1) := by decide +kernel
theorem dX4_sinks_61 : decode cX4_sinks 61 = .ok (.ireturn, 1) := by decide +kernel
theorem dX4_sinks_62 : decode cX4_sinks 62 = .ok (.iconst 1, 1) := by decide +kernel
theorem dX4_sinks_63 : decode cX4_sinks 63 = .ok (.iload_n 2, 1) := by decide +kernel
theorem dX4_sinks_64 : decode cX4_sinks 64 = .ok (.iadd, 1) := by decide +kernel
theorem dX4_sinks_65 : decode cX4_sinks 65 = .ok (.ireturn, 1) := by decide +kernel
theorem dX4_sinks_66 : decode cX4_sinks 66 = .ok (.iconst 1, 1) := by decide +kernel
theorem dX4_sinks_67 : decode cX4_sinks 67 = .ok (.iload_n 2, 1) := by decide +kernel
theorem dX4_sinks_68 : decode cX4_sinks 68 = .ok (.iadd, 1) := by decide +kernel
theorem dX4_sinks_69 : decode cX4_sinks 69 = .ok (.iconst 1, 1) := by decide +kernel
theorem dX4_sinks_70 : decode cX4_sinks 70 = .ok (.iadd, 1) := by decide +kernel
theorem dX4_sinks_71 : decode cX4_sinks 71 = .ok (.ireturn, 1) := by decide +kernel
theorem dX4_sinks_72 : decode cX4_sinks 72 = .ok (.iconst 0, 1) := by decide +kernel
theorem dX4_sinks_73 : decode cX4_sinks 73 = .ok (.ireturn, 1) := by decide +kernel
theorem dX4_sinks_74 : decode cX4_sinks 74 = .ok (.iconst 1, 1) := by decide +kernel
theorem dX4_sinks_75 : decode cX4_sinks 75 = .ok (.ireturn, 1) := by decide +kernel
theorem dX4_fades_0 : decode cX4_fades 0 = .ok (.aload_n 0, 1) := by decide +kernel
theorem dX4_fades_1 : decode cX4_fades 1 = .ok (.getfield 21, 3) := by decide +kernel
theorem dX4_fades_4 : decode cX4_fades 4 = .ok (.iload_n 1, 1) := by decide +kernel
theorem dX4_fades_5 : decode cX4_fades 5 = .ok (.iaload, 1) := by decide +kernel
theorem dX4_fades_6 : decode cX4_fades 6 = .ok (.tableswitch 38 2 5 #[32, 30, 34, 36], 30) := by decide +kernel
theorem dX4_fades_36 : decode cX4_fades 36 = .ok (.iconst 3, 1) := by decide +kernel
theorem dX4_fades_37 : decode cX4_fades 37 = .ok (.ireturn, 1) := by decide +kernel
theorem dX4_fades_38 : decode cX4_fades 38 = .ok (.iconst 0, 1) := by decide +kernel
theorem dX4_fades_39 : decode cX4_fades 39 = .ok (.ireturn, 1) := by decide +kernel
theorem dX4_fades_40 : decode cX4_fades 40 = .ok (.iconst 3, 1) := by decide +kernel
theorem dX4_fades_41 : decode cX4_fades 41 = .ok (.ireturn, 1) := by decide +kernel
theorem dX4_fades_42 : decode cX4_fades 42 = .ok (.iconst 5, 1) := by decide +kernel
theorem dX4_fades_43 : decode cX4_fades 43 = .ok (.ireturn, 1) := by decide +kernel
theorem dX4_fades_44 : decode cX4_fades 44 = .ok (.iconst 1, 1) := by decide +kernel
theorem dX4_fades_45 : decode cX4_fades 45 = .ok (.ireturn, 1) := by decide +kernel
theorem dX4_isLegible_0 : decode cX4_isLegible 0 = .ok (.aload_n 0, 1) := by decide +kernel
theorem dX4_isLegible_1 : decode cX4_isLegible 1 = .ok (.iload_n 1, 1) := by decide +kernel
theorem dX4_isLegible_2 : decode cX4_isLegible 2 = .ok (.invokevirtual 105, 3) := by decide +kernel
theorem dX4_isLegible_5 : decode cX4_isLegible 5 = .ok (.aload_n 0, 1) := by decide +kernel
theorem dX4_isLegible_6 : decode cX4_isLegible 6 = .ok (.getfield 36, 3) := by decide +kernel
theorem dX4_isLegible_9 : decode cX4_isLegible 9 = .ok (.iconst 1, 1) := by decide +kernel
theorem dX4_isLegible_10 : decode cX4_isLegible 10 = .ok (.iaload, 1) := by decide +kernel
theorem dX4_isLegible_11 : decode cX4_isLegible 11 = .ok (.if_icmp .lt 7, 3) := by decide +kernel
theorem dX4_isLegible_14 : decode cX4_isLegible 14 = .ok (.iconst 1, 1) := by decide +kernel
theorem dX4_isLegible_15 : decode cX4_isLegible 15 = .ok (.goto 4, 3) := by decide +kernel
theorem dX4_isLegible_18 : decode cX4_isLegible 18 = .ok (.iconst 0, 1) := by decide +kernel
theorem dX4_isLegible_19 : decode cX4_isLegible 19 = .ok (.ireturn, 1) := by decide +kernel
theorem dX4_legibleSet_0 : decode cX4_legibleSet 0 = .ok (.iconst 0, 1) := by decide +kernel
theorem dX4_legibleSet_1 : decode cX4_legibleSet 1 = .ok (.istore_n 1, 1) := by decide +kernel
theorem dX4_legibleSet_2 : decode cX4_legibleSet 2 = .ok (.iconst 0, 1) := by decide +kernel
theorem dX4_legibleSet_3 : decode cX4_legibleSet 3 = .ok (.istore_n 2, 1) := by decide +kernel
theorem dX4_legibleSet_4 : decode cX4_legibleSet 4 = .ok (.iload_n 2, 1) := by decide +kernel
theorem dX4_legibleSet_5 : decode cX4_legibleSet 5 = .ok (.aload_n 0, 1) := by decide +kernel
theorem dX4_legibleSet_6 : decode cX4_legibleSet 6 = .ok (.getfield 66, 3) := by decide +kernel
theorem dX4_legibleSet_9 : decode cX4_legibleSet 9 = .ok (.if_icmp .ge 27, 3) := by decide +kernel
theorem dX4_legibleSet_12 : decode cX4_legibleSet 12 = .ok (.iload_n 1, 1) := by decide +kernel
theorem dX4_legibleSet_13 : decode cX4_legibleSet 13 = .ok (.aload_n 0, 1) := by decide +kernel
theorem dX4_legibleSet_14 : decode cX4_legibleSet 14 = .ok (.iload_n 2, 1) := by decide +kernel
theorem dX4_legibleSet_15 : decode cX4_legibleSet 15 = .ok (.invokevirtual 108, 3) := by decide +kernel
theorem dX4_legibleSet_18 : decode cX4_legibleSet 18 = .ok (.ifCond .eq 9, 3) := by decide +kernel
theorem dX4_legibleSet_21 : decode cX4_legibleSet 21 = .ok (.iconst 1, 1) := by decide +kernel
theorem dX4_legibleSet_22 : decode cX4_legibleSet 22 = .ok (.iload_n 2, 1) := by decide +kernel
theorem dX4_legibleSet_23 : decode cX4_legibleSet 23 = .ok (.ishl, 1) := by decide +kernel
theorem dX4_legibleSet_24 : decode cX4_legibleSet 24 = .ok (.goto 4, 3) := by decide +kernel
theorem dX4_legibleSet_27 : decode cX4_legibleSet 27 = .ok (.iconst 0, 1) := by decide +kernel
theorem dX4_legibleSet_28 : decode cX4_legibleSet 28 = .ok (.ior, 1) := by decide +kernel
theorem dX4_legibleSet_29 : decode cX4_legibleSet 29 = .ok (.istore_n 1, 1) := by decide +kernel
theorem dX4_legibleSet_30 : decode cX4_legibleSet 30 = .ok (.iinc 2 1, 3) := by decide +kernel
theorem dX4_legibleSet_33 : decode cX4_legibleSet 33 = .ok (.goto (-29), 3) := by decide +kernel
theorem dX4_legibleSet_36 : decode cX4_legibleSet 36 = .ok (.iload_n 1, 1) := by decide +kernel
theorem dX4_legibleSet_37 : decode cX4_legibleSet 37 = .ok (.ireturn, 1) := by decide +kernel
theorem dX4_setIn_0 : decode cX4_setIn 0 = .ok (.iconst 0, 1) := by decide +kernel
theorem dX4_setIn_1 : decode cX4_setIn 1 = .ok (.istore_n 2, 1) := by decide +kernel
theorem dX4_setIn_2 : decode cX4_setIn 2 = .ok (.iconst 0, 1) := by decide +kernel
theorem dX4_setIn_3 : decode cX4_setIn 3 = .ok (.istore_n 3, 1) := by decide +kernel
theorem dX4_setIn_4 : decode cX4_setIn 4 = .ok (.iload_n 3, 1) := by decide +kernel
theorem dX4_setIn_5 : decode cX4_setIn 5 = .ok (.aload_n 0, 1) := by decide +kernel
theorem dX4_setIn_6 : decode cX4_setIn 6 = .ok (.getfield 66, 3) := by decide +kernel
theorem dX4_setIn_9 : decode cX4_setIn 9 = .ok (.if_icmp .ge 29, 3) := by decide +kernel
theorem dX4_setIn_12 : decode cX4_setIn 12 = .ok (.iload_n 2, 1) := by decide +kernel
theorem dX4_setIn_13 : decode cX4_setIn 13 = .ok (.aload_n 0, 1) := by decide +kernel
theorem dX4_setIn_14 : decode cX4_setIn 14 = .ok (.getfield 30, 3) := by decide +kernel
theorem dX4_setIn_17 : decode cX4_setIn 17 = .ok (.iload_n 3, 1) := by decide +kernel
theorem dX4_setIn_18 : decode cX4_setIn 18 = .ok (.iaload, 1) := by decide +kernel
theorem dX4_setIn_19 : decode cX4_setIn 19 = .ok (.iload_n 1, 1) := by decide +kernel
theorem dX4_setIn_20 : decode cX4_setIn 20 = .ok (.if_icmp .ne 9, 3) := by decide +kernel
theorem dX4_setIn_23 : decode cX4_setIn 23 = .ok (.iconst 1, 1) := by decide +kernel
theorem dX4_setIn_24 : decode cX4_setIn 24 = .ok (.iload_n 3, 1) := by decide +kernel
theorem dX4_setIn_25 : decode cX4_setIn 25 = .ok (.ishl, 1) := by decide +kernel
theorem dX4_setIn_26 : decode cX4_setIn 26 = .ok (.goto 4, 3) := by decide +kernel
theorem dX4_setIn_29 : decode cX4_setIn 29 = .ok (.iconst 0, 1) := by decide +kernel
theorem dX4_setIn_30 : decode cX4_setIn 30 = .ok (.ior, 1) := by decide +kernel
theorem dX4_setIn_31 : decode cX4_setIn 31 = .ok (.istore_n 2, 1) := by decide +kernel
theorem dX4_setIn_32 : decode cX4_setIn 32 = .ok (.iinc 3 1, 3) := by decide +kernel
theorem dX4_setIn_35 : decode cX4_setIn 35 = .ok (.goto (-31), 3) := by decide +kernel
theorem dX4_setIn_38 : decode cX4_setIn 38 = .ok (.iload_n 2, 1) := by decide +kernel
theorem dX4_setIn_39 : decode cX4_setIn 39 = .ok (.ireturn, 1) := by decide +kernel
theorem dX4_showIn_0 : decode cX4_showIn 0 = .ok (.iconst 0, 1) := by decide +kernel
theorem dX4_showIn_1 : decode cX4_showIn 1 = .ok (.istore_n 2, 1) := by decide +kernel
theorem dX4_showIn_2 : decode cX4_showIn 2 = .ok (.iconst 0, 1) := by decide +kernel
theorem dX4_showIn_3 : decode cX4_showIn 3 = .ok (.istore_n 3, 1) := by decide +kernel
theorem dX4_showIn_4 : decode cX4_showIn 4 = .ok (.iload_n 3, 1) := by decide +kernel
theorem dX4_showIn_5 : decode cX4_showIn 5 = .ok (.aload_n 0, 1) := by decide +kernel
theorem dX4_showIn_6 : decode cX4_showIn 6 = .ok (.getfield 66, 3) := by decide +kernel
theorem dX4_showIn_9 : decode cX4_showIn 9 = .ok (.if_icmp .ge 31, 3) := by decide +kernel
theorem dX4_showIn_12 : decode cX4_showIn 12 = .ok (.iload_n 2, 1) := by decide +kernel
theorem dX4_showIn_13 : decode cX4_showIn 13 = .ok (.aload_n 0, 1) := by decide +kernel
theorem dX4_showIn_14 : decode cX4_showIn 14 = .ok (.getfield 30, 3) := by decide +kernel
theorem dX4_showIn_17 : decode cX4_showIn 17 = .ok (.iload_n 3, 1) := by decide +kernel
theorem dX4_showIn_18 : decode cX4_showIn 18 = .ok (.iaload, 1) := by decide +kernel
theorem dX4_showIn_19 : decode cX4_showIn 19 = .ok (.iload_n 1, 1) := by decide +kernel
theorem dX4_showIn_20 : decode cX4_showIn 20 = .ok (.if_icmp .ne 11, 3) := by decide +kernel
theorem dX4_showIn_23 : decode cX4_showIn 23 = .ok (.aload_n 0, 1) := by decide +kernel
theorem dX4_showIn_24 : decode cX4_showIn 24 = .ok (.iload_n 3, 1) := by decide +kernel
theorem dX4_showIn_25 : decode cX4_showIn 25 = .ok (.invokevirtual 105, 3) := by decide +kernel
theorem dX4_showIn_28 : decode cX4_showIn 28 = .ok (.goto 4, 3) := by decide +kernel
theorem dX4_showIn_31 : decode cX4_showIn 31 = .ok (.iconst 0, 1) := by decide +kernel
theorem dX4_showIn_32 : decode cX4_showIn 32 = .ok (.iadd, 1) := by decide +kernel
theorem dX4_showIn_33 : decode cX4_showIn 33 = .ok (.istore_n 2, 1) := by decide +kernel
theorem dX4_showIn_34 : decode cX4_showIn 34 = .ok (.iinc 3 1, 3) := by decide +kernel
theorem dX4_showIn_37 : decode cX4_showIn 37 = .ok (.goto (-33), 3) := by decide +kernel
theorem dX4_showIn_40 : decode cX4_showIn 40 = .ok (.iload_n 2, 1) := by decide +kernel
theorem dX4_showIn_41 : decode cX4_showIn 41 = .ok (.ireturn, 1) := by decide +kernel
theorem dX4_narrowest_0 : decode cX4_narrowest 0 = .ok (.iconst 0, 1) := by decide +kernel
theorem dX4_narrowest_1 : decode cX4_narrowest 1 = .ok (.istore_n 1, 1) := by decide +kernel
theorem dX4_narrowest_2 : decode cX4_narrowest 2 = .ok (.iconst 1, 1) := by decide +kernel
theorem dX4_narrowest_3 : decode cX4_narrowest 3 = .ok (.istore_n 2, 1) := by decide +kernel
theorem dX4_narrowest_4 : decode cX4_narrowest 4 = .ok (.iload_n 2, 1) := by decide +kernel
theorem dX4_narrowest_5 : decode cX4_narrowest 5 = .ok (.bipush 6, 2) := by decide +kernel
theorem dX4_narrowest_7 : decode cX4_narrowest 7 = .ok (.if_icmp .ge 26, 3) := by decide +kernel
theorem dX4_narrowest_10 : decode cX4_narrowest 10 = .ok (.aload_n 0, 1) := by decide +kernel
theorem dX4_narrowest_11 : decode cX4_narrowest 11 = .ok (.getfield 9, 3) := by decide +kernel
theorem dX4_narrowest_14 : decode cX4_narrowest 14 = .ok (.iload_n 2, 1) := by decide +kernel
theorem dX4_narrowest_15 : decode cX4_narrowest 15 = .ok (.iaload, 1) := by decide +kernel
theorem dX4_narrowest_16 : decode cX4_narrowest 16 = .ok (.aload_n 0, 1) := by decide +kernel
theorem dX4_narrowest_17 : decode cX4_narrowest 17 = .ok (.getfield 9, 3) := by decide +kernel
theorem dX4_narrowest_20 : decode cX4_narrowest 20 = .ok (.iload_n 1, 1) := by decide +kernel
theorem dX4_narrowest_21 : decode cX4_narrowest 21 = .ok (.iaload, 1) := by decide +kernel
theorem dX4_narrowest_22 : decode cX4_narrowest 22 = .ok (.if_icmp .ge 5, 3) := by decide +kernel
theorem dX4_narrowest_25 : decode cX4_narrowest 25 = .ok (.iload_n 2, 1) := by decide +kernel
theorem dX4_narrowest_26 : decode cX4_narrowest 26 = .ok (.istore_n 1, 1) := by decide +kernel
theorem dX4_narrowest_27 : decode cX4_narrowest 27 = .ok (.iinc 2 1, 3) := by decide +kernel
theorem dX4_narrowest_30 : decode cX4_narrowest 30 = .ok (.goto (-26), 3) := by decide +kernel
theorem dX4_narrowest_33 : decode cX4_narrowest 33 = .ok (.iload_n 1, 1) := by decide +kernel
theorem dX4_narrowest_34 : decode cX4_narrowest 34 = .ok (.ireturn, 1) := by decide +kernel
theorem dX4_total_0 : decode cX4_total 0 = .ok (.iload_n 1, 1) := by decide +kernel
theorem dX4_total_1 : decode cX4_total 1 = .ok (.tableswitch 72 0 4 #[35, 40, 45, 54, 63], 35) := by decide +kernel
theorem dX4_total_36 : decode cX4_total 36 = .ok (.aload_n 0, 1) := by decide +kernel
theorem dX4_total_37 : decode cX4_total 37 = .ok (.getfield 69, 3) := by decide +kernel
theorem dX4_total_40 : decode cX4_total 40 = .ok (.ireturn, 1) := by decide +kernel
theorem dX4_total_41 : decode cX4_total 41 = .ok (.aload_n 0, 1) := by decide +kernel
theorem dX4_total_42 : decode cX4_total 42 = .ok (.getfield 72, 3) := by decide +kernel
theorem dX4_total_45 : decode cX4_total 45 = .ok (.ireturn, 1) := by decide +kernel
theorem dX4_total_46 : decode cX4_total 46 = .ok (.aload_n 0, 1) := by decide +kernel
theorem dX4_total_47 : decode cX4_total 47 = .ok (.aload_n 0, 1) := by decide +kernel
theorem dX4_total_48 : decode cX4_total 48 = .ok (.getfield 27, 3) := by decide +kernel
theorem dX4_total_51 : decode cX4_total 51 = .ok (.invokevirtual 112, 3) := by decide +kernel
theorem dX4_total_54 : decode cX4_total 54 = .ok (.ireturn, 1) := by decide +kernel
theorem dX4_total_55 : decode cX4_total 55 = .ok (.aload_n 0, 1) := by decide +kernel
theorem dX4_total_56 : decode cX4_total 56 = .ok (.aload_n 0, 1) := by decide +kernel
theorem dX4_total_57 : decode cX4_total 57 = .ok (.getfield 24, 3) := by decide +kernel
theorem dX4_total_60 : decode cX4_total 60 = .ok (.invokevirtual 112, 3) := by decide +kernel
theorem dX4_total_63 : decode cX4_total 63 = .ok (.ireturn, 1) := by decide +kernel
theorem dX4_total_64 : decode cX4_total 64 = .ok (.aload_n 0, 1) := by decide +kernel
theorem dX4_total_65 : decode cX4_total 65 = .ok (.aload_n 0, 1) := by decide +kernel
theorem dX4_total_66 : decode cX4_total 66 = .ok (.getfield 33, 3) := by decide +kernel
theorem dX4_total_69 : decode cX4_total 69 = .ok (.invokevirtual 112, 3) := by decide +kernel
theorem dX4_total_72 : decode cX4_total 72 = .ok (.ireturn, 1) := by decide +kernel
theorem dX4_total_73 : decode cX4_total 73 = .ok (.ldc 116, 2) := by decide +kernel
theorem dX4_total_75 : decode cX4_total 75 = .ok (.ireturn, 1) := by decide +kernel
theorem dX4_sumOfMarks_0 : decode cX4_sumOfMarks 0 = .ok (.iconst 0, 1) := by decide +kernel
theorem dX4_sumOfMarks_1 : decode cX4_sumOfMarks 1 = .ok (.istore_n 2, 1) := by decide +kernel
theorem dX4_sumOfMarks_2 : decode cX4_sumOfMarks 2 = .ok (.iconst 0, 1) := by decide +kernel
theorem dX4_sumOfMarks_3 : decode cX4_sumOfMarks 3 = .ok (.istore_n 3, 1) := by decide +kernel
theorem dX4_sumOfMarks_4 : decode cX4_sumOfMarks 4 = .ok (.iload_n 3, 1) := by decide +kernel
theorem dX4_sumOfMarks_5 : decode cX4_sumOfMarks 5 = .ok (.aload_n 0, 1) := by decide +kernel
theorem dX4_sumOfMarks_6 : decode cX4_sumOfMarks 6 = .ok (.getfield 66, 3) := by decide +kernel
theorem dX4_sumOfMarks_9 : decode cX4_sumOfMarks 9 = .ok (.if_icmp .ge 21, 3) := by decide +kernel
theorem dX4_sumOfMarks_12 : decode cX4_sumOfMarks 12 = .ok (.iload_n 3, 1) := by decide +kernel
theorem dX4_sumOfMarks_13 : decode cX4_sumOfMarks 13 = .ok (.aload_n 1, 1) := by decide +kernel
theorem dX4_sumOfMarks_14 : decode cX4_sumOfMarks 14 = .ok (.arraylength, 1) := by decide +kernel
theorem dX4_sumOfMarks_15 : decode cX4_sumOfMarks 15 = .ok (.if_icmp .ge 15, 3) := by decide +kernel
theorem dX4_sumOfMarks_18 : decode cX4_sumOfMarks 18 = .ok (.iload_n 2, 1) := by decide +kernel
theorem dX4_sumOfMarks_19 : decode cX4_sumOfMarks 19 = .ok (.aload_n 1, 1) := by decide +kernel
theorem dX4_sumOfMarks_20 : decode cX4_sumOfMarks 20 = .ok (.iload_n 3, 1) := by decide +kernel
theorem dX4_sumOfMarks_21 : decode cX4_sumOfMarks 21 = .ok (.iaload, 1) := by decide +kernel
theorem dX4_sumOfMarks_22 : decode cX4_sumOfMarks 22 = .ok (.iadd, 1) := by decide +kernel
theorem dX4_sumOfMarks_23 : decode cX4_sumOfMarks 23 = .ok (.istore_n 2, 1) := by decide +kernel
theorem dX4_sumOfMarks_24 : decode cX4_sumOfMarks 24 = .ok (.iinc 3 1, 3) := by decide +kernel
theorem dX4_sumOfMarks_27 : decode cX4_sumOfMarks 27 = .ok (.goto (-23), 3) := by decide +kernel
theorem dX4_sumOfMarks_30 : decode cX4_sumOfMarks 30 = .ok (.iload_n 2, 1) := by decide +kernel
theorem dX4_sumOfMarks_31 : decode cX4_sumOfMarks 31 = .ok (.ireturn, 1) := by decide +kernel
theorem dX4_coatAll_0 : decode cX4_coatAll 0 = .ok (.iconst 0, 1) := by decide +kernel
theorem dX4_coatAll_1 : decode cX4_coatAll 1 = .ok (.istore_n 1, 1) := by decide +kernel
theorem dX4_coatAll_2 : decode cX4_coatAll 2 = .ok (.iload_n 1, 1) := by decide +kernel
theorem dX4_coatAll_3 : decode cX4_coatAll 3 = .ok (.aload_n 0, 1) := by decide +kernel
theorem dX4_coatAll_4 : decode cX4_coatAll 4 = .ok (.getfield 66, 3) := by decide +kernel
theorem dX4_coatAll_7 : decode cX4_coatAll 7 = .ok (.if_icmp .ge 33, 3) := by decide +kernel
theorem dX4_coatAll_10 : decode cX4_coatAll 10 = .ok (.aload_n 0, 1) := by decide +kernel
theorem dX4_coatAll_11 : decode cX4_coatAll 11 = .ok (.getfield 27, 3) := by decide +kernel
theorem dX4_coatAll_14 : decode cX4_coatAll 14 = .ok (.iload_n 1, 1) := by decide +kernel
theorem dX4_coatAll_15 : decode cX4_coatAll 15 = .ok (.sipush 9999, 3) := by decide +kernel
theorem dX4_coatAll_18 : decode cX4_coatAll 18 = .ok (.aload_n 0, 1) := by decide +kernel
theorem dX4_coatAll_19 : decode cX4_coatAll 19 = .ok (.getfield 27, 3) := by decide +kernel
theorem dX4_coatAll_22 : decode cX4_coatAll 22 = .ok (.iload_n 1, 1) := by decide +kernel
theorem dX4_coatAll_23 : decode cX4_coatAll 23 = .ok (.iaload, 1) := by decide +kernel
theorem dX4_coatAll_24 : decode cX4_coatAll 24 = .ok (.aload_n 0, 1) := by decide +kernel
theorem dX4_coatAll_25 : decode cX4_coatAll 25 = .ok (.iload_n 1, 1) := by decide +kernel
theorem dX4_coatAll_26 : decode cX4_coatAll 26 = .ok (.invokevirtual 117, 3) := by decide +kernel
theorem dX4_coatAll_29 : decode cX4_coatAll 29 = .ok (.iadd, 1) := by decide +kernel
theorem dX4_coatAll_30 : decode cX4_coatAll 30 = .ok (.invokestatic 97, 3) := by decide +kernel
theorem dX4_coatAll_33 : decode cX4_coatAll 33 = .ok (.iastore, 1) := by decide +kernel
theorem dX4_coatAll_34 : decode cX4_coatAll 34 = .ok (.iinc 1 1, 3) := by decide +kernel
theorem dX4_coatAll_37 : decode cX4_coatAll 37 = .ok (.goto (-35), 3) := by decide +kernel
theorem dX4_coatAll_40 : decode cX4_coatAll 40 = .ok (.aload_n 0, 1) := by decide +kernel
theorem dX4_coatAll_41 : decode cX4_coatAll 41 = .ok (.getfield 36, 3) := by decide +kernel
theorem dX4_coatAll_44 : decode cX4_coatAll 44 = .ok (.iconst 0, 1) := by decide +kernel
theorem dX4_coatAll_45 : decode cX4_coatAll 45 = .ok (.iaload, 1) := by decide +kernel
theorem dX4_coatAll_46 : decode cX4_coatAll 46 = .ok (.istore_n 1, 1) := by decide +kernel
theorem dX4_coatAll_47 : decode cX4_coatAll 47 = .ok (.iconst 0, 1) := by decide +kernel
theorem dX4_coatAll_48 : decode cX4_coatAll 48 = .ok (.istore_n 2, 1) := by decide +kernel
theorem dX4_coatAll_49 : decode cX4_coatAll 49 = .ok (.iload_n 2, 1) := by decide +kernel
theorem dX4_coatAll_50 : decode cX4_coatAll 50 = .ok (.bipush 6, 2) := by decide +kernel
theorem dX4_coatAll_52 : decode cX4_coatAll 52 = .ok (.if_icmp .ge 63, 3) := by decide +kernel
theorem dX4_coatAll_55 : decode cX4_coatAll 55 = .ok (.aload_n 0, 1) := by decide +kernel
theorem dX4_coatAll_56 : decode cX4_coatAll 56 = .ok (.getfield 15, 3) := by decide +kernel
theorem dX4_coatAll_59 : decode cX4_coatAll 59 = .ok (.iload_n 2, 1) := by decide +kernel
theorem dX4_coatAll_60 : decode cX4_coatAll 60 = .ok (.sipush 9999, 3) := by decide +kernel
theorem dX4_coatAll_63 : decode cX4_coatAll 63 = .ok (.aload_n 0, 1) := by decide +kernel
theorem dX4_coatAll_64 : decode cX4_coatAll 64 = .ok (.getfield 15, 3) := by decide +kernel
theorem dX4_coatAll_67 : decode cX4_coatAll 67 = .ok (.iload_n 2, 1) := by decide +kernel
theorem dX4_coatAll_68 : decode cX4_coatAll 68 = .ok (.iaload, 1) := by decide +kernel
theorem dX4_coatAll_69 : decode cX4_coatAll 69 = .ok (.iconst 1, 1) := by decide +kernel
theorem dX4_coatAll_70 : decode cX4_coatAll 70 = .ok (.iadd, 1) := by decide +kernel
theorem dX4_coatAll_71 : decode cX4_coatAll 71 = .ok (.invokestatic 97, 3) := by decide +kernel
theorem dX4_coatAll_74 : decode cX4_coatAll 74 = .ok (.iastore, 1) := by decide +kernel
theorem dX4_coatAll_75 : decode cX4_coatAll 75 = .ok (.iload_n 1, 1) := by decide +kernel
theorem dX4_coatAll_76 : decode cX4_coatAll 76 = .ok (.ifCond .le 33, 3) := by decide +kernel
theorem dX4_coatAll_79 : decode cX4_coatAll 79 = .ok (.aload_n 0, 1) := by decide +kernel
theorem dX4_coatAll_80 : decode cX4_coatAll 80 = .ok (.getfield 15, 3) := by decide +kernel
theorem dX4_coatAll_83 : decode cX4_coatAll 83 = .ok (.iload_n 2, 1) := by decide +kernel
theorem dX4_coatAll_84 : decode cX4_coatAll 84 = .ok (.iaload, 1) := by decide +kernel
theorem dX4_coatAll_85 : decode cX4_coatAll 85 = .ok (.iload_n 1, 1) := by decide +kernel
theorem dX4_coatAll_86 : decode cX4_coatAll 86 = .ok (.irem, 1) := by decide +kernel
theorem dX4_coatAll_87 : decode cX4_coatAll 87 = .ok (.ifCond .ne 22, 3) := by decide +kernel
theorem dX4_coatAll_90 : decode cX4_coatAll 90 = .ok (.aload_n 0, 1) := by decide +kernel
theorem dX4_coatAll_91 : decode cX4_coatAll 91 = .ok (.getfield 9, 3) := by decide +kernel
theorem dX4_coatAll_94 : decode cX4_coatAll 94 = .ok (.iload_n 2, 1) := by decide +kernel
theorem dX4_coatAll_95 : decode cX4_coatAll 95 = .ok (.iaload, 1) := by decide +kernel
theorem dX4_coatAll_96 : decode cX4_coatAll 96 = .ok (.ifCond .le 13, 3) := by decide +kernel
theorem dX4_coatAll_99 : decode cX4_coatAll 99 = .ok (.aload_n 0, 1) := by decide +kernel
theorem dX4_coatAll_100 : decode cX4_coatAll 100 = .ok (.getfield 9, 3) := by decide +kernel
theorem dX4_coatAll_103 : decode cX4_coatAll 103 = .ok (.iload_n 2, 1) := by decide +kernel
theorem dX4_coatAll_104 : decode cX4_coatAll 104 = .ok (.dup2, 1) := by decide +kernel
theorem dX4_coatAll_105 : decode cX4_coatAll 105 = .ok (.iaload, 1) := by decide +kernel
theorem dX4_coatAll_106 : decode cX4_coatAll 106 = .ok (.iconst 1, 1) := by decide +kernel
theorem dX4_coatAll_107 : decode cX4_coatAll 107 = .ok (.isub, 1) := by decide +kernel
theorem dX4_coatAll_108 : decode cX4_coatAll 108 = .ok (.iastore, 1) := by decide +kernel
theorem dX4_coatAll_109 : decode cX4_coatAll 109 = .ok (.iinc 2 1, 3) := by decide +kernel
theorem dX4_coatAll_112 : decode cX4_coatAll 112 = .ok (.goto (-63), 3) := by decide +kernel
theorem dX4_coatAll_115 : decode cX4_coatAll 115 = .ok (.return_, 1) := by decide +kernel
theorem dX4_breathOn_0 : decode cX4_breathOn 0 = .ok (.iconst 0, 1) := by decide +kernel
theorem dX4_breathOn_1 : decode cX4_breathOn 1 = .ok (.istore_n 2, 1) := by decide +kernel
theorem dX4_breathOn_2 : decode cX4_breathOn 2 = .ok (.iconst 0, 1) := by decide +kernel
theorem dX4_breathOn_3 : decode cX4_breathOn 3 = .ok (.istore_n 3, 1) := by decide +kernel
theorem dX4_breathOn_4 : decode cX4_breathOn 4 = .ok (.iload_n 3, 1) := by decide +kernel
theorem dX4_breathOn_5 : decode cX4_breathOn 5 = .ok (.aload_n 0, 1) := by decide +kernel
theorem dX4_breathOn_6 : decode cX4_breathOn 6 = .ok (.getfield 66, 3) := by decide +kernel
theorem dX4_breathOn_9 : decode cX4_breathOn 9 = .ok (.if_icmp .ge 98, 3) := by decide +kernel
theorem dX4_breathOn_12 : decode cX4_breathOn 12 = .ok (.aload_n 0, 1) := by decide +kernel
theorem dX4_breathOn_13 : decode cX4_breathOn 13 = .ok (.getfield 30, 3) := by decide +kernel
theorem dX4_breathOn_16 : decode cX4_breathOn 16 = .ok (.iload_n 3, 1) := by decide +kernel
theorem dX4_breathOn_17 : decode cX4_breathOn 17 = .ok (.iaload, 1) := by decide +kernel
theorem dX4_breathOn_18 : decode cX4_breathOn 18 = .ok (.iload_n 1, 1) := by decide +kernel
theorem dX4_breathOn_19 : decode cX4_breathOn 19 = .ok (.if_icmp .ne 82, 3) := by decide +kernel
theorem dX4_breathOn_22 : decode cX4_breathOn 22 = .ok (.aload_n 0, 1) := by decide +kernel
theorem dX4_breathOn_23 : decode cX4_breathOn 23 = .ok (.iload_n 3, 1) := by decide +kernel
theorem dX4_breathOn_24 : decode cX4_breathOn 24 = .ok (.invokevirtual 105, 3) := by decide +kernel
theorem dX4_breathOn_27 : decode cX4_breathOn 27 = .ok (.istore 4, 2) := by decide +kernel
theorem dX4_breathOn_29 : decode cX4_breathOn 29 = .ok (.iload 4, 2) := by decide +kernel
theorem dX4_breathOn_31 : decode cX4_breathOn 31 = .ok (.aload_n 0, 1) := by decide +kernel
theorem dX4_breathOn_32 : decode cX4_breathOn 32 = .ok (.getfield 36, 3) := by decide +kernel
theorem dX4_breathOn_35 : decode cX4_breathOn 35 = .ok (.iconst 1, 1) := by decide +kernel
theorem dX4_breathOn_36 : decode cX4_breathOn 36 = .ok (.iaload, 1) := by decide +kernel
theorem dX4_breathOn_37 : decode cX4_breathOn 37 = .ok (.if_icmp .lt 51, 3) := by decide +kernel
theorem dX4_breathOn_40 : decode cX4_breathOn 40 = .ok (.iinc 2 1, 3) := by decide +kernel
theorem dX4_breathOn_43 : decode cX4_breathOn 43 = .ok (.aload_n 0, 1) := by decide +kernel
theorem dX4_breathOn_44 : decode cX4_breathOn 44 = .ok (.getfield 33, 3) := by decide +kernel
theorem dX4_breathOn_47 : decode cX4_breathOn 47 = .ok (.iload_n 3, 1) := by decide +kernel
theorem dX4_breathOn_48 : decode cX4_breathOn 48 = .ok (.sipush 9999, 3) := by decide +kernel
theorem dX4_breathOn_51 : decode cX4_breathOn 51 = .ok (.aload_n 0, 1) := by decide +kernel
theorem dX4_breathOn_52 : decode cX4_breathOn 52 = .ok (.getfield 33, 3) := by decide +kernel
theorem dX4_breathOn_55 : decode cX4_breathOn 55 = .ok (.iload_n 3, 1) := by decide +kernel
theorem dX4_breathOn_56 : decode cX4_breathOn 56 = .ok (.iaload, 1) := by decide +kernel
theorem dX4_breathOn_57 : decode cX4_breathOn 57 = .ok (.iconst 1, 1) := by decide +kernel
theorem dX4_breathOn_58 : decode cX4_breathOn 58 = .ok (.iadd, 1) := by decide +kernel
theorem dX4_breathOn_59 : decode cX4_breathOn 59 = .ok (.invokestatic 97, 3) := by decide +kernel
theorem dX4_breathOn_62 : decode cX4_breathOn 62 = .ok (.iastore, 1) := by decide +kernel
theorem dX4_breathOn_63 : decode cX4_breathOn 63 = .ok (.aload_n 0, 1) := by decide +kernel
theorem dX4_breathOn_64 : decode cX4_breathOn 64 = .ok (.getfield 24, 3) := by decide +kernel
theorem dX4_breathOn_67 : decode cX4_breathOn 67 = .ok (.iload_n 3, 1) := by decide +kernel
theorem dX4_breathOn_68 : decode cX4_breathOn 68 = .ok (.iconst 0, 1) := by decide +kernel
theorem dX4_breathOn_69 : decode cX4_breathOn 69 = .ok (.aload_n 0, 1) := by decide +kernel
theorem dX4_breathOn_70 : decode cX4_breathOn 70 = .ok (.getfield 24, 3) := by decide +kernel
theorem dX4_breathOn_73 : decode cX4_breathOn 73 = .ok (.iload_n 3, 1) := by decide +kernel
theorem dX4_breathOn_74 : decode cX4_breathOn 74 = .ok (.iaload, 1) := by decide +kernel
theorem dX4_breathOn_75 : decode cX4_breathOn 75 = .ok (.aload_n 0, 1) := by decide +kernel
theorem dX4_breathOn_76 : decode cX4_breathOn 76 = .ok (.iload_n 3, 1) := by decide +kernel
theorem dX4_breathOn_77 : decode cX4_breathOn 77 = .ok (.invokevirtual 120, 3) := by decide +kernel
theorem dX4_breathOn_80 : decode cX4_breathOn 80 = .ok (.isub, 1) := by decide +kernel
theorem dX4_breathOn_81 : decode cX4_breathOn 81 = .ok (.invokestatic 102, 3) := by decide +kernel
theorem dX4_breathOn_84 : decode cX4_breathOn 84 = .ok (.iastore, 1) := by decide +kernel
theorem dX4_breathOn_85 : decode cX4_breathOn 85 = .ok (.goto 16, 3) := by decide +kernel
theorem dX4_breathOn_88 : decode cX4_breathOn 88 = .ok (.aload_n 0, 1) := by decide +kernel
theorem dX4_breathOn_89 : decode cX4_breathOn 89 = .ok (.aload_n 0, 1) := by decide +kernel
theorem dX4_breathOn_90 : decode cX4_breathOn 90 = .ok (.getfield 46, 3) := by decide +kernel
theorem dX4_breathOn_93 : decode cX4_breathOn 93 = .ok (.iload 4, 2) := by decide +kernel
theorem dX4_breathOn_95 : decode cX4_breathOn 95 = .ok (.invokestatic 102, 3) := by decide +kernel
theorem dX4_breathOn_98 : decode cX4_breathOn 98 = .ok (.putfield 46, 3) := by decide +kernel
theorem dX4_breathOn_101 : decode cX4_breathOn 101 = .ok (.iinc 3 1, 3) := by decide +kernel
theorem dX4_breathOn_104 : decode cX4_breathOn 104 = .ok (.goto (-100), 3) := by decide +kernel
theorem dX4_breathOn_107 : decode cX4_breathOn 107 = .ok (.aload_n 0, 1) := by decide +kernel
theorem dX4_breathOn_108 : decode cX4_breathOn 108 = .ok (.ldc 123, 2) := by decide +kernel
theorem dX4_breathOn_110 : decode cX4_breathOn 110 = .ok (.aload_n 0, 1) := by decide +kernel
theorem dX4_breathOn_111 : decode cX4_breathOn 111 = .ok (.getfield 69, 3) := by decide +kernel
theorem dX4_breathOn_114 : decode cX4_breathOn 114 = .ok (.iload_n 2, 1) := by decide +kernel
theorem dX4_breathOn_115 : decode cX4_breathOn 115 = .ok (.iadd, 1) := by decide +kernel
theorem dX4_breathOn_116 : decode cX4_breathOn 116 = .ok (.invokestatic 97, 3) := by decide +kernel
theorem dX4_breathOn_119 : decode cX4_breathOn 119 = .ok (.putfield 69, 3) := by decide +kernel
theorem dX4_breathOn_122 : decode cX4_breathOn 122 = .ok (.iload_n 2, 1) := by decide +kernel
theorem dX4_breathOn_123 : decode cX4_breathOn 123 = .ok (.ireturn, 1) := by decide +kernel
theorem dX4_digOut_0 : decode cX4_digOut 0 = .ok (.iload_n 2, 1) := by decide +kernel
theorem dX4_digOut_1 : decode cX4_digOut 1 = .ok (.aload_n 0, 1) := by decide +kernel
theorem dX4_digOut_2 : decode cX4_digOut 2 = .ok (.getfield 15, 3) := by decide +kernel
theorem dX4_digOut_5 : decode cX4_digOut 5 = .ok (.iload_n 1, 1) := by decide +kernel
theorem dX4_digOut_6 : decode cX4_digOut 6 = .ok (.iaload, 1) := by decide +kernel
theorem dX4_digOut_7 : decode cX4_digOut 7 = .ok (.invokestatic 97, 3) := by decide +kernel
theorem dX4_digOut_10 : decode cX4_digOut 10 = .ok (.istore_n 3, 1) := by decide +kernel
theorem dX4_digOut_11 : decode cX4_digOut 11 = .ok (.aload_n 0, 1) := by decide +kernel
theorem dX4_digOut_12 : decode cX4_digOut 12 = .ok (.getfield 15, 3) := by decide +kernel
theorem dX4_digOut_15 : decode cX4_digOut 15 = .ok (.iload_n 1, 1) := by decide +kernel
theorem dX4_digOut_16 : decode cX4_digOut 16 = .ok (.dup2, 1) := by decide +kernel
theorem dX4_digOut_17 : decode cX4_digOut 17 = .ok (.iaload, 1) := by decide +kernel
theorem dX4_digOut_18 : decode cX4_digOut 18 = .ok (.iload_n 3, 1) := by decide +kernel
theorem dX4_digOut_19 : decode cX4_digOut 19 = .ok (.isub, 1) := by decide +kernel
theorem dX4_digOut_20 : decode cX4_digOut 20 = .ok (.iastore, 1) := by decide +kernel
theorem dX4_digOut_21 : decode cX4_digOut 21 = .ok (.aload_n 0, 1) := by decide +kernel
theorem dX4_digOut_22 : decode cX4_digOut 22 = .ok (.ldc 123, 2) := by decide +kernel
theorem dX4_digOut_24 : decode cX4_digOut 24 = .ok (.aload_n 0, 1) := by decide +kernel
theorem dX4_digOut_25 : decode cX4_digOut 25 = .ok (.getfield 72, 3) := by decide +kernel
theorem dX4_digOut_28 : decode cX4_digOut 28 = .ok (.iload_n 3, 1) := by decide +kernel
theorem dX4_digOut_29 : decode cX4_digOut 29 = .ok (.iadd, 1) := by decide +kernel
theorem dX4_digOut_30 : decode cX4_digOut 30 = .ok (.invokestatic 97, 3) := by decide +kernel
theorem dX4_digOut_33 : decode cX4_digOut 33 = .ok (.putfield 72, 3) := by decide +kernel
theorem dX4_digOut_36 : decode cX4_digOut 36 = .ok (.aload_n 0, 1) := by decide +kernel
theorem dX4_digOut_37 : decode cX4_digOut 37 = .ok (.getfield 36, 3) := by decide +kernel
theorem dX4_digOut_40 : decode cX4_digOut 40 = .ok (.iconst 0, 1) := by decide +kernel
theorem dX4_digOut_41 : decode cX4_digOut 41 = .ok (.iaload, 1) := by decide +kernel
theorem dX4_digOut_42 : decode cX4_digOut 42 = .ok (.istore 4, 2) := by decide +kernel
theorem dX4_digOut_44 : decode cX4_digOut 44 = .ok (.aload_n 0, 1) := by decide +kernel
theorem dX4_digOut_45 : decode cX4_digOut 45 = .ok (.getfield 9, 3) := by decide +kernel
theorem dX4_digOut_48 : decode cX4_digOut 48 = .ok (.iload_n 1, 1) := by decide +kernel
theorem dX4_digOut_49 : decode cX4_digOut 49 = .ok (.bipush 99, 2) := by decide +kernel
theorem dX4_digOut_51 : decode cX4_digOut 51 = .ok (.aload_n 0, 1) := by decide +kernel
theorem dX4_digOut_52 : decode cX4_digOut 52 = .ok (.getfield 9, 3) := by decide +kernel
theorem dX4_digOut_55 : decode cX4_digOut 55 = .ok (.iload_n 1, 1) := by decide +kernel
theorem dX4_digOut_56 : decode cX4_digOut 56 = .ok (.iaload, 1) := by decide +kernel
theorem dX4_digOut_57 : decode cX4_digOut 57 = .ok (.iload 4, 2) := by decide +kernel
theorem dX4_digOut_59 : decode cX4_digOut 59 = .ok (.ifCond .le 10, 3) := by decide +kernel
theorem dX4_digOut_62 : decode cX4_digOut 62 = .ok (.iload_n 2, 1) := by decide +kernel
theorem dX4_digOut_63 : decode cX4_digOut 63 = .ok (.iload 4, 2) := by decide +kernel
theorem dX4_digOut_65 : decode cX4_digOut 65 = .ok (.idiv, 1) := by decide +kernel
theorem dX4_digOut_66 : decode cX4_digOut 66 = .ok (.goto 4, 3) := by decide +kernel
theorem dX4_digOut_69 : decode cX4_digOut 69 = .ok (.iconst 0, 1) := by decide +kernel
theorem dX4_digOut_70 : decode cX4_digOut 70 = .ok (.iadd, 1) := by decide +kernel
theorem dX4_digOut_71 : decode cX4_digOut 71 = .ok (.invokestatic 97, 3) := by decide +kernel
theorem dX4_digOut_74 : decode cX4_digOut 74 = .ok (.iastore, 1) := by decide +kernel
theorem dX4_digOut_75 : decode cX4_digOut 75 = .ok (.iconst 0, 1) := by decide +kernel
theorem dX4_digOut_76 : decode cX4_digOut 76 = .ok (.istore 5, 2) := by decide +kernel
theorem dX4_digOut_78 : decode cX4_digOut 78 = .ok (.iload 5, 2) := by decide +kernel
theorem dX4_digOut_80 : decode cX4_digOut 80 = .ok (.aload_n 0, 1) := by decide +kernel
theorem dX4_digOut_81 : decode cX4_digOut 81 = .ok (.getfield 66, 3) := by decide +kernel
theorem dX4_digOut_84 : decode cX4_digOut 84 = .ok (.if_icmp .ge 40, 3) := by decide +kernel
theorem dX4_digOut_87 : decode cX4_digOut 87 = .ok (.aload_n 0, 1) := by decide +kernel
theorem dX4_digOut_88 : decode cX4_digOut 88 = .ok (.getfield 30, 3) := by decide +kernel
theorem dX4_digOut_91 : decode cX4_digOut 91 = .ok (.iload 5, 2) := by decide +kernel
theorem dX4_digOut_93 : decode cX4_digOut 93 = .ok (.iaload, 1) := by decide +kernel
theorem dX4_digOut_94 : decode cX4_digOut 94 = .ok (.iload_n 1, 1) := by decide +kernel
theorem dX4_digOut_95 : decode cX4_digOut 95 = .ok (.if_icmp .ne 23, 3) := by decide +kernel
theorem dX4_digOut_98 : decode cX4_digOut 98 = .ok (.aload_n 0, 1) := by decide +kernel
theorem dX4_digOut_99 : decode cX4_digOut 99 = .ok (.getfield 27, 3) := by decide +kernel
theorem dX4_digOut_102 : decode cX4_digOut 102 = .ok (.iload 5, 2) := by decide +kernel
theorem dX4_digOut_104 : decode cX4_digOut 104 = .ok (.iconst 0, 1) := by decide +kernel
theorem dX4_digOut_105 : decode cX4_digOut 105 = .ok (.aload_n 0, 1) := by decide +kernel
theorem dX4_digOut_106 : decode cX4_digOut 106 = .ok (.getfield 27, 3) := by decide +kernel
theorem dX4_digOut_109 : decode cX4_digOut 109 = .ok (.iload 5, 2) := by decide +kernel
theorem dX4_digOut_111 : decode cX4_digOut 111 = .ok (.iaload, 1) := by decide +kernel
theorem dX4_digOut_112 : decode cX4_digOut 112 = .ok (.iload_n 2, 1) := by decide +kernel
theorem dX4_digOut_113 : decode cX4_digOut 113 = .ok (.isub, 1) := by decide +kernel
theorem dX4_digOut_114 : decode cX4_digOut 114 = .ok (.invokestatic 102, 3) := by decide +kernel
theorem dX4_digOut_117 : decode cX4_digOut 117 = .ok (.iastore, 1) := by decide +kernel
theorem dX4_digOut_118 : decode cX4_digOut 118 = .ok (.iinc 5 1, 3) := by decide +kernel
theorem dX4_digOut_121 : decode cX4_digOut 121 = .ok (.goto (-43), 3) := by decide +kernel
theorem dX4_digOut_124 : decode cX4_digOut 124 = .ok (.iload_n 3, 1) := by decide +kernel
theorem dX4_digOut_125 : decode cX4_digOut 125 = .ok (.ireturn, 1) := by decide +kernel
theorem dX4_spoonByChance_0 : decode cX4_spoonByChance 0 = .ok (.aload_n 0, 1) := by decide +kernel
theorem dX4_spoonByChance_1 : decode cX4_spoonByChance 1 = .ok (.invokevirtual 124, 3) := by decide +kernel
theorem dX4_spoonByChance_4 : decode cX4_spoonByChance 4 = .ok (.bipush 100, 2) := by decide +kernel
theorem dX4_spoonByChance_6 : decode cX4_spoonByChance 6 = .ok (.irem, 1) := by decide +kernel
theorem dX4_spoonByChance_7 : decode cX4_spoonByChance 7 = .ok (.aload_n 0, 1) := by decide +kernel
theorem dX4_spoonByChance_8 : decode cX4_spoonByChance 8 = .ok (.getfield 36, 3) := by decide +kernel
theorem dX4_spoonByChance_11 : decode cX4_spoonByChance 11 = .ok (.iconst 2, 1) := by decide +kernel
theorem dX4_spoonByChance_12 : decode cX4_spoonByChance 12 = .ok (.iaload, 1) := by decide +kernel
theorem dX4_spoonByChance_13 : decode cX4_spoonByChance 13 = .ok (.if_icmp .ge 24, 3) := by decide +kernel
theorem dX4_spoonByChance_16 : decode cX4_spoonByChance 16 = .ok (.aload_n 0, 1) := by decide +kernel
theorem dX4_spoonByChance_17 : decode cX4_spoonByChance 17 = .ok (.invokevirtual 124, 3) := by decide +kernel
theorem dX4_spoonByChance_20 : decode cX4_spoonByChance 20 = .ok (.bipush 6, 2) := by decide +kernel
theorem dX4_spoonByChance_22 : decode cX4_spoonByChance 22 = .ok (.irem, 1) := by decide +kernel
theorem dX4_spoonByChance_23 : decode cX4_spoonByChance 23 = .ok (.istore_n 1, 1) := by decide +kernel
theorem dX4_spoonByChance_24 : decode cX4_spoonByChance 24 = .ok (.aload_n 0, 1) := by decide +kernel
theorem dX4_spoonByChance_25 : decode cX4_spoonByChance 25 = .ok (.iload_n 1, 1) := by decide +kernel
theorem dX4_spoonByChance_26 : decode cX4_spoonByChance 26 = .ok (.aload_n 0, 1) := by decide +kernel
theorem dX4_spoonByChance_27 : decode cX4_spoonByChance 27 = .ok (.invokevirtual 124, 3) := by decide +kernel
theorem dX4_spoonByChance_30 : decode cX4_spoonByChance 30 = .ok (.bipush 10, 2) := by decide +kernel
theorem dX4_spoonByChance_32 : decode cX4_spoonByChance 32 = .ok (.irem, 1) := by decide +kernel
theorem dX4_spoonByChance_33 : decode cX4_spoonByChance 33 = .ok (.invokevirtual 128, 3) := by decide +kernel
theorem dX4_spoonByChance_36 : decode cX4_spoonByChance 36 = .ok (.pop, 1) := by decide +kernel
theorem dX4_spoonByChance_37 : decode cX4_spoonByChance 37 = .ok (.return_, 1) := by decide +kernel
theorem dX4_pass_0 : decode cX4_pass 0 = .ok (.iconst 0, 1) := by decide +kernel
theorem dX4_pass_1 : decode cX4_pass 1 = .ok (.istore_n 2, 1) := by decide +kernel
theorem dX4_pass_2 : decode cX4_pass 2 = .ok (.iload_n 2, 1) := by decide +kernel
theorem dX4_pass_3 : decode cX4_pass 3 = .ok (.iload_n 1, 1) := by decide +kernel
theorem dX4_pass_4 : decode cX4_pass 4 = .ok (.if_icmp .ge 39, 3) := by decide +kernel
theorem dX4_pass_7 : decode cX4_pass 7 = .ok (.aload_n 0, 1) := by decide +kernel
theorem dX4_pass_8 : decode cX4_pass 8 = .ok (.invokevirtual 131, 3) := by decide +kernel
theorem dX4_pass_11 : decode cX4_pass 11 = .ok (.aload_n 0, 1) := by decide +kernel
theorem dX4_pass_12 : decode cX4_pass 12 = .ok (.aload_n 0, 1) := by decide +kernel
theorem dX4_pass_13 : decode cX4_pass 13 = .ok (.getfield 75, 3) := by decide +kernel
theorem dX4_pass_16 : decode cX4_pass 16 = .ok (.bipush 6, 2) := by decide +kernel
theorem dX4_pass_18 : decode cX4_pass 18 = .ok (.irem, 1) := by decide +kernel
theorem dX4_pass_19 : decode cX4_pass 19 = .ok (.invokevirtual 134, 3) := by decide +kernel
theorem dX4_pass_22 : decode cX4_pass 22 = .ok (.pop, 1) := by decide +kernel
theorem dX4_pass_23 : decode cX4_pass 23 = .ok (.aload_n 0, 1) := by decide +kernel
theorem dX4_pass_24 : decode cX4_pass 24 = .ok (.invokevirtual 137, 3) := by decide +kernel
theorem dX4_pass_27 : decode cX4_pass 27 = .ok (.aload_n 0, 1) := by decide +kernel
theorem dX4_pass_28 : decode cX4_pass 28 = .ok (.dup, 1) := by decide +kernel
theorem dX4_pass_29 : decode cX4_pass 29 = .ok (.getfield 75, 3) := by decide +kernel
theorem dX4_pass_32 : decode cX4_pass 32 = .ok (.iconst 1, 1) := by decide +kernel
theorem dX4_pass_33 : decode cX4_pass 33 = .ok (.iadd, 1) := by decide +kernel
theorem dX4_pass_34 : decode cX4_pass 34 = .ok (.putfield 75, 3) := by decide +kernel
theorem dX4_pass_37 : decode cX4_pass 37 = .ok (.iinc 2 1, 3) := by decide +kernel
theorem dX4_pass_40 : decode cX4_pass 40 = .ok (.goto (-38), 3) := by decide +kernel
theorem dX4_pass_43 : decode cX4_pass 43 = .ok (.return_, 1) := by decide +kernel
theorem dJ6_bitCount_0f7a4_0 : decode cJ6_bitCount_0f7a4 0 = .ok (.iload_n 0, 1) := by decide +kernel
theorem dJ6_bitCount_0f7a4_1 : decode cJ6_bitCount_0f7a4 1 = .ok (.iload_n 0, 1) := by decide +kernel
theorem dJ6_bitCount_0f7a4_2 : decode cJ6_bitCount_0f7a4 2 = .ok (.iconst 1, 1) := by decide +kernel
theorem dJ6_bitCount_0f7a4_3 : decode cJ6_bitCount_0f7a4 3 = .ok (.iushr, 1) := by decide +kernel
theorem dJ6_bitCount_0f7a4_4 : decode cJ6_bitCount_0f7a4 4 = .ok (.ldc_w 265, 3) := by decide +kernel
theorem dJ6_bitCount_0f7a4_7 : decode cJ6_bitCount_0f7a4 7 = .ok (.iand, 1) := by decide +kernel
theorem dJ6_bitCount_0f7a4_8 : decode cJ6_bitCount_0f7a4 8 = .ok (.isub, 1) := by decide +kernel
theorem dJ6_bitCount_0f7a4_9 : decode cJ6_bitCount_0f7a4 9 = .ok (.istore_n 0, 1) := by decide +kernel
theorem dJ6_bitCount_0f7a4_10 : decode cJ6_bitCount_0f7a4 10 = .ok (.iload_n 0, 1) := by decide +kernel
theorem dJ6_bitCount_0f7a4_11 : decode cJ6_bitCount_0f7a4 11 = .ok (.ldc_w 266, 3) := by decide +kernel
theorem dJ6_bitCount_0f7a4_14 : decode cJ6_bitCount_0f7a4 14 = .ok (.iand, 1) := by decide +kernel
theorem dJ6_bitCount_0f7a4_15 : decode cJ6_bitCount_0f7a4 15 = .ok (.iload_n 0, 1) := by decide +kernel
theorem dJ6_bitCount_0f7a4_16 : decode cJ6_bitCount_0f7a4 16 = .ok (.iconst 2, 1) := by decide +kernel
theorem dJ6_bitCount_0f7a4_17 : decode cJ6_bitCount_0f7a4 17 = .ok (.iushr, 1) := by decide +kernel
theorem dJ6_bitCount_0f7a4_18 : decode cJ6_bitCount_0f7a4 18 = .ok (.ldc_w 266, 3) := by decide +kernel
theorem dJ6_bitCount_0f7a4_21 : decode cJ6_bitCount_0f7a4 21 = .ok (.iand, 1) := by decide +kernel
theorem dJ6_bitCount_0f7a4_22 : decode cJ6_bitCount_0f7a4 22 = .ok (.iadd, 1) := by decide +kernel
theorem dJ6_bitCount_0f7a4_23 : decode cJ6_bitCount_0f7a4 23 = .ok (.istore_n 0, 1) := by decide +kernel
theorem dJ6_bitCount_0f7a4_24 : decode cJ6_bitCount_0f7a4 24 = .ok (.iload_n 0, 1) := by decide +kernel
theorem dJ6_bitCount_0f7a4_25 : decode cJ6_bitCount_0f7a4 25 = .ok (.iload_n 0, 1) := by decide +kernel
theorem dJ6_bitCount_0f7a4_26 : decode cJ6_bitCount_0f7a4 26 = .ok (.iconst 4, 1) := by decide +kernel
theorem dJ6_bitCount_0f7a4_27 : decode cJ6_bitCount_0f7a4 27 = .ok (.iushr, 1) := by decide +kernel
theorem dJ6_bitCount_0f7a4_28 : decode cJ6_bitCount_0f7a4 28 = .ok (.iadd, 1) := by decide +kernel
theorem dJ6_bitCount_0f7a4_29 : decode cJ6_bitCount_0f7a4 29 = .ok (.ldc_w 267, 3) := by decide +kernel
theorem dJ6_bitCount_0f7a4_32 : decode cJ6_bitCount_0f7a4 32 = .ok (.iand, 1) := by decide +kernel
theorem dJ6_bitCount_0f7a4_33 : decode cJ6_bitCount_0f7a4 33 = .ok (.istore_n 0, 1) := by decide +kernel
theorem dJ6_bitCount_0f7a4_34 : decode cJ6_bitCount_0f7a4 34 = .ok (.iload_n 0, 1) := by decide +kernel
theorem dJ6_bitCount_0f7a4_35 : decode cJ6_bitCount_0f7a4 35 = .ok (.iload_n 0, 1) := by decide +kernel
theorem dJ6_bitCount_0f7a4_36 : decode cJ6_bitCount_0f7a4 36 = .ok (.bipush 8, 2) := by decide +kernel
theorem dJ6_bitCount_0f7a4_38 : decode cJ6_bitCount_0f7a4 38 = .ok (.iushr, 1) := by decide +kernel
theorem dJ6_bitCount_0f7a4_39 : decode cJ6_bitCount_0f7a4 39 = .ok (.iadd, 1) := by decide +kernel
theorem dJ6_bitCount_0f7a4_40 : decode cJ6_bitCount_0f7a4 40 = .ok (.istore_n 0, 1) := by decide +kernel
theorem dJ6_bitCount_0f7a4_41 : decode cJ6_bitCount_0f7a4 41 = .ok (.iload_n 0, 1) := by decide +kernel
theorem dJ6_bitCount_0f7a4_42 : decode cJ6_bitCount_0f7a4 42 = .ok (.iload_n 0, 1) := by decide +kernel
theorem dJ6_bitCount_0f7a4_43 : decode cJ6_bitCount_0f7a4 43 = .ok (.bipush 16, 2) := by decide +kernel
theorem dJ6_bitCount_0f7a4_45 : decode cJ6_bitCount_0f7a4 45 = .ok (.iushr, 1) := by decide +kernel
theorem dJ6_bitCount_0f7a4_46 : decode cJ6_bitCount_0f7a4 46 = .ok (.iadd, 1) := by decide +kernel
theorem dJ6_bitCount_0f7a4_47 : decode cJ6_bitCount_0f7a4 47 = .ok (.istore_n 0, 1) := by decide +kernel
theorem dJ6_bitCount_0f7a4_48 : decode cJ6_bitCount_0f7a4 48 = .ok (.iload_n 0, 1) := by decide +kernel
theorem dJ6_bitCount_0f7a4_49 : decode cJ6_bitCount_0f7a4 49 = .ok (.bipush 63, 2) := by decide +kernel
theorem dJ6_bitCount_0f7a4_51 : decode cJ6_bitCount_0f7a4 51 = .ok (.iand, 1) := by decide +kernel
theorem dJ6_bitCount_0f7a4_52 : decode cJ6_bitCount_0f7a4 52 = .ok (.ireturn, 1) := by decide +kernel
theorem dJ9_abs_0f7a4_0 : decode cJ9_abs_0f7a4 0 = .ok (.iload_n 0, 1) := by decide +kernel
theorem dJ9_abs_0f7a4_1 : decode cJ9_abs_0f7a4 1 = .ok (.ifCond .ge 8, 3) := by decide +kernel
theorem dJ9_abs_0f7a4_4 : decode cJ9_abs_0f7a4 4 = .ok (.iload_n 0, 1) := by decide +kernel
theorem dJ9_abs_0f7a4_5 : decode cJ9_abs_0f7a4 5 = .ok (.ineg, 1) := by decide +kernel
theorem dJ9_abs_0f7a4_6 : decode cJ9_abs_0f7a4 6 = .ok (.goto 4, 3) := by decide +kernel
theorem dJ9_abs_0f7a4_9 : decode cJ9_abs_0f7a4 9 = .ok (.iload_n 0, 1) := by decide +kernel
theorem dJ9_abs_0f7a4_10 : decode cJ9_abs_0f7a4 10 = .ok (.ireturn, 1) := by decide +kernel
theorem dJ9_max_7cf53_0 : decode cJ9_max_7cf53 0 = .ok (.iload_n 0, 1) := by decide +kernel
theorem dJ9_max_7cf53_1 : decode cJ9_max_7cf53 1 = .ok (.iload_n 1, 1) := by decide +kernel
theorem dJ9_max_7cf53_2 : decode cJ9_max_7cf53 2 = .ok (.if_icmp .lt 7, 3) := by decide +kernel
theorem dJ9_max_7cf53_5 : decode cJ9_max_7cf53 5 = .ok (.iload_n 0, 1) := by decide +kernel
theorem dJ9_max_7cf53_6 : decode cJ9_max_7cf53 6 = .ok (.goto 4, 3) := by decide +kernel
theorem dJ9_max_7cf53_9 : decode cJ9_max_7cf53 9 = .ok (.iload_n 1, 1) := by decide +kernel
theorem dJ9_max_7cf53_10 : decode cJ9_max_7cf53 10 = .ok (.ireturn, 1) := by decide +kernel
theorem dJ9_min_7cf53_0 : decode cJ9_min_7cf53 0 = .ok (.iload_n 0, 1) := by decide +kernel
theorem dJ9_min_7cf53_1 : decode cJ9_min_7cf53 1 = .ok (.iload_n 1, 1) := by decide +kernel
theorem dJ9_min_7cf53_2 : decode cJ9_min_7cf53 2 = .ok (.if_icmp .gt 7, 3) := by decide +kernel
theorem dJ9_min_7cf53_5 : decode cJ9_min_7cf53 5 = .ok (.iload_n 0, 1) := by decide +kernel
theorem dJ9_min_7cf53_6 : decode cJ9_min_7cf53 6 = .ok (.goto 4, 3) := by decide +kernel
theorem dJ9_min_7cf53_9 : decode cJ9_min_7cf53 9 = .ok (.iload_n 1, 1) := by decide +kernel
theorem dJ9_min_7cf53_10 : decode cJ9_min_7cf53 10 = .ok (.ireturn, 1) := by decide +kernel
theorem dJ7_fill_53178_0 : decode cJ7_fill_53178 0 = .ok (.iconst 0, 1) := by decide +kernel
theorem dJ7_fill_53178_1 : decode cJ7_fill_53178 1 = .ok (.istore_n 2, 1) := by decide +kernel
theorem dJ7_fill_53178_2 : decode cJ7_fill_53178 2 = .ok (.aload_n 0, 1) := by decide +kernel
theorem dJ7_fill_53178_3 : decode cJ7_fill_53178 3 = .ok (.arraylength, 1) := by decide +kernel
theorem dJ7_fill_53178_4 : decode cJ7_fill_53178 4 = .ok (.istore_n 3, 1) := by decide +kernel
theorem dJ7_fill_53178_5 : decode cJ7_fill_53178 5 = .ok (.iload_n 2, 1) := by decide +kernel
theorem dJ7_fill_53178_6 : decode cJ7_fill_53178 6 = .ok (.iload_n 3, 1) := by decide +kernel
theorem dJ7_fill_53178_7 : decode cJ7_fill_53178 7 = .ok (.if_icmp .ge 13, 3) := by decide +kernel
theorem dJ7_fill_53178_10 : decode cJ7_fill_53178 10 = .ok (.aload_n 0, 1) := by decide +kernel
theorem dJ7_fill_53178_11 : decode cJ7_fill_53178 11 = .ok (.iload_n 2, 1) := by decide +kernel
theorem dJ7_fill_53178_12 : decode cJ7_fill_53178 12 = .ok (.iload_n 1, 1) := by decide +kernel
theorem dJ7_fill_53178_13 : decode cJ7_fill_53178 13 = .ok (.iastore, 1) := by decide +kernel
theorem dJ7_fill_53178_14 : decode cJ7_fill_53178 14 = .ok (.iinc 2 1, 3) := by decide +kernel
theorem dJ7_fill_53178_17 : decode cJ7_fill_53178 17 = .ok (.goto (-12), 3) := by decide +kernel
theorem dJ7_fill_53178_20 : decode cJ7_fill_53178 20 = .ok (.return_, 1) := by decide +kernel
theorem dJ0_length_8abf5_0 : decode cJ0_length_8abf5 0 = .ok (.aload_n 0, 1) := by decide +kernel
theorem dJ0_length_8abf5_1 : decode cJ0_length_8abf5 1 = .ok (.getfield 9, 3) := by decide +kernel
theorem dJ0_length_8abf5_4 : decode cJ0_length_8abf5 4 = .ok (.arraylength, 1) := by decide +kernel
theorem dJ0_length_8abf5_5 : decode cJ0_length_8abf5 5 = .ok (.aload_n 0, 1) := by decide +kernel
theorem dJ0_length_8abf5_6 : decode cJ0_length_8abf5 6 = .ok (.invokevirtual 335, 3) := by decide +kernel
theorem dJ0_length_8abf5_9 : decode cJ0_length_8abf5 9 = .ok (.ishr, 1) := by decide +kernel
theorem dJ0_length_8abf5_10 : decode cJ0_length_8abf5 10 = .ok (.ireturn, 1) := by decide +kernel
theorem dJ0_charAt_5068e_0 : decode cJ0_charAt_5068e 0 = .ok (.aload_n 0, 1) := by decide +kernel
theorem dJ0_charAt_5068e_1 : decode cJ0_charAt_5068e 1 = .ok (.invokevirtual 492, 3) := by decide +kernel
theorem dJ0_charAt_5068e_4 : decode cJ0_charAt_5068e 4 = .ok (.ifCond .eq 12, 3) := by decide +kernel
theorem dJ0_charAt_5068e_7 : decode cJ0_charAt_5068e 7 = .ok (.aload_n 0, 1) := by decide +kernel
theorem dJ0_charAt_5068e_8 : decode cJ0_charAt_5068e 8 = .ok (.getfield 9, 3) := by decide +kernel
theorem dJ0_charAt_5068e_11 : decode cJ0_charAt_5068e 11 = .ok (.iload_n 1, 1) := by decide +kernel
theorem dJ0_charAt_5068e_12 : decode cJ0_charAt_5068e 12 = .ok (.invokestatic 495, 3) := by decide +kernel
theorem dJ0_charAt_5068e_15 : decode cJ0_charAt_5068e 15 = .ok (.ireturn, 1) := by decide +kernel
theorem dJ0_charAt_5068e_16 : decode cJ0_charAt_5068e 16 = .ok (.aload_n 0, 1) := by decide +kernel
theorem dJ0_charAt_5068e_17 : decode cJ0_charAt_5068e 17 = .ok (.getfield 9, 3) := by decide +kernel
theorem dJ0_charAt_5068e_20 : decode cJ0_charAt_5068e 20 = .ok (.iload_n 1, 1) := by decide +kernel
theorem dJ0_charAt_5068e_21 : decode cJ0_charAt_5068e 21 = .ok (.invokestatic 498, 3) := by decide +kernel
theorem dJ0_charAt_5068e_24 : decode cJ0_charAt_5068e 24 = .ok (.ireturn, 1) := by decide +kernel
theorem dJ0_indexOf_0f7a4_0 : decode cJ0_indexOf_0f7a4 0 = .ok (.aload_n 0, 1) := by decide +kernel
theorem dJ0_indexOf_0f7a4_1 : decode cJ0_indexOf_0f7a4 1 = .ok (.iload_n 1, 1) := by decide +kernel
theorem dJ0_indexOf_0f7a4_2 : decode cJ0_indexOf_0f7a4 2 = .ok (.iconst 0, 1) := by decide +kernel
theorem dJ0_indexOf_0f7a4_3 : decode cJ0_indexOf_0f7a4 3 = .ok (.invokevirtual 633, 3) := by decide +kernel
theorem dJ0_indexOf_0f7a4_6 : decode cJ0_indexOf_0f7a4 6 = .ok (.ireturn, 1) := by decide +kernel
theorem dJ0_indexOf_7cf53_0 : decode cJ0_indexOf_7cf53 0 = .ok (.aload_n 0, 1) := by decide +kernel
theorem dJ0_indexOf_7cf53_1 : decode cJ0_indexOf_7cf53 1 = .ok (.invokevirtual 492, 3) := by decide +kernel
theorem dJ0_indexOf_7cf53_4 : decode cJ0_indexOf_7cf53 4 = .ok (.ifCond .eq 19, 3) := by decide +kernel
theorem dJ0_indexOf_7cf53_7 : decode cJ0_indexOf_7cf53 7 = .ok (.aload_n 0, 1) := by decide +kernel
theorem dJ0_indexOf_7cf53_8 : decode cJ0_indexOf_7cf53 8 = .ok (.getfield 9, 3) := by decide +kernel
theorem dJ0_indexOf_7cf53_11 : decode cJ0_indexOf_7cf53 11 = .ok (.iload_n 1, 1) := by decide +kernel
theorem dJ0_indexOf_7cf53_12 : decode cJ0_indexOf_7cf53 12 = .ok (.iload_n 2, 1) := by decide +kernel
theorem dJ0_indexOf_7cf53_13 : decode cJ0_indexOf_7cf53 13 = .ok (.aload_n 0, 1) := by decide +kernel
theorem dJ0_indexOf_7cf53_14 : decode cJ0_indexOf_7cf53 14 = .ok (.invokevirtual 505, 3) := by decide +kernel
theorem dJ0_indexOf_7cf53_17 : decode cJ0_indexOf_7cf53 17 = .ok (.invokestatic 637, 3) := by decide +kernel
theorem dJ0_indexOf_7cf53_20 : decode cJ0_indexOf_7cf53 20 = .ok (.goto 16, 3) := by decide +kernel
theorem dJ0_indexOf_7cf53_23 : decode cJ0_indexOf_7cf53 23 = .ok (.aload_n 0, 1) := by decide +kernel
theorem dJ0_indexOf_7cf53_24 : decode cJ0_indexOf_7cf53 24 = .ok (.getfield 9, 3) := by decide +kernel
theorem dJ0_indexOf_7cf53_27 : decode cJ0_indexOf_7cf53 27 = .ok (.iload_n 1, 1) := by decide +kernel
theorem dJ0_indexOf_7cf53_28 : decode cJ0_indexOf_7cf53 28 = .ok (.iload_n 2, 1) := by decide +kernel
theorem dJ0_indexOf_7cf53_29 : decode cJ0_indexOf_7cf53 29 = .ok (.aload_n 0, 1) := by decide +kernel
theorem dJ0_indexOf_7cf53_30 : decode cJ0_indexOf_7cf53 30 = .ok (.invokevirtual 505, 3) := by decide +kernel
theorem dJ0_indexOf_7cf53_33 : decode cJ0_indexOf_7cf53 33 = .ok (.invokestatic 640, 3) := by decide +kernel
theorem dJ0_indexOf_7cf53_36 : decode cJ0_indexOf_7cf53 36 = .ok (.ireturn, 1) := by decide +kernel
theorem dJ0_coder_7d493_0 : decode cJ0_coder_7d493 0 = .ok (.getstatic 38, 3) := by decide +kernel
theorem dJ0_coder_7d493_3 : decode cJ0_coder_7d493 3 = .ok (.ifCond .eq 10, 3) := by decide +kernel
theorem dJ0_coder_7d493_6 : decode cJ0_coder_7d493 6 = .ok (.aload_n 0, 1) := by decide +kernel
theorem dJ0_coder_7d493_7 : decode cJ0_coder_7d493 7 = .ok (.getfield 15, 3) := by decide +kernel
theorem dJ0_coder_7d493_10 : decode cJ0_coder_7d493 10 = .ok (.goto 4, 3) := by decide +kernel
theorem dJ0_coder_7d493_13 : decode cJ0_coder_7d493 13 = .ok (.iconst 1, 1) := by decide +kernel
theorem dJ0_coder_7d493_14 : decode cJ0_coder_7d493 14 = .ok (.ireturn, 1) := by decide +kernel
theorem dJ0_isLatin1_aae02_0 : decode cJ0_isLatin1_aae02 0 = .ok (.getstatic 38, 3) := by decide +kernel
theorem dJ0_isLatin1_aae02_3 : decode cJ0_isLatin1_aae02 3 = .ok (.ifCond .eq 14, 3) := by decide +kernel
theorem dJ0_isLatin1_aae02_6 : decode cJ0_isLatin1_aae02 6 = .ok (.aload_n 0, 1) := by decide +kernel
theorem dJ0_isLatin1_aae02_7 : decode cJ0_isLatin1_aae02 7 = .ok (.getfield 15, 3) := by decide +kernel
theorem dJ0_isLatin1_aae02_10 : decode cJ0_isLatin1_aae02 10 = .ok (.ifCond .ne 7, 3) := by decide +kernel
theorem dJ0_isLatin1_aae02_13 : decode cJ0_isLatin1_aae02 13 = .ok (.iconst 1, 1) := by decide +kernel
theorem dJ0_isLatin1_aae02_14 : decode cJ0_isLatin1_aae02 14 = .ok (.goto 4, 3) := by decide +kernel
theorem dJ0_isLatin1_aae02_17 : decode cJ0_isLatin1_aae02 17 = .ok (.iconst 0, 1) := by decide +kernel
theorem dJ0_isLatin1_aae02_18 : decode cJ0_isLatin1_aae02 18 = .ok (.ireturn, 1) := by decide +kernel
theorem dJ0_checkIndex_df160_0 : decode cJ0_checkIndex_df160 0 = .ok (.iload_n 0, 1) := by decide +kernel
theorem dJ0_checkIndex_df160_1 : decode cJ0_checkIndex_df160 1 = .ok (.iload_n 1, 1) := by decide +kernel
theorem dJ0_checkIndex_df160_2 : decode cJ0_checkIndex_df160 2 = .ok (.getstatic 1053, 3) := by decide +kernel
theorem dJ0_checkIndex_df160_5 : decode cJ0_checkIndex_df160 5 = .ok (.invokestatic 1059, 3) := by decide +kernel
theorem dJ0_checkIndex_df160_8 : decode cJ0_checkIndex_df160 8 = .ok (.pop, 1) := by decide +kernel
theorem dJ0_checkIndex_df160_9 : decode cJ0_checkIndex_df160 9 = .ok (.return_, 1) := by decide +kernel
theorem dJ0_checkBoundsBeginEnd_23922_0 : decode cJ0_checkBoundsBeginEnd_23922 0 = .ok (.iload_n 0, 1) := by decide +kernel
theorem dJ0_checkBoundsBeginEnd_23922_1 : decode cJ0_checkBoundsBeginEnd_23922 1 = .ok (.iload_n 1, 1) := by decide +kernel
theorem dJ0_checkBoundsBeginEnd_23922_2 : decode cJ0_checkBoundsBeginEnd_23922 2 = .ok (.iload_n 2, 1) := by decide +kernel
theorem dJ0_checkBoundsBeginEnd_23922_3 : decode cJ0_checkBoundsBeginEnd_23922 3 = .ok (.getstatic 1053, 3) := by decide +kernel
theorem dJ0_checkBoundsBeginEnd_23922_6 : decode cJ0_checkBoundsBeginEnd_23922 6 = .ok (.invokestatic 1062, 3) := by decide +kernel
theorem dJ0_checkBoundsBeginEnd_23922_9 : decode cJ0_checkBoundsBeginEnd_23922 9 = .ok (.pop, 1) := by decide +kernel
theorem dJ0_checkBoundsBeginEnd_23922_10 : decode cJ0_checkBoundsBeginEnd_23922 10 = .ok (.return_, 1) := by decide +kernel
theorem dJ1_charAt_3b067_0 : decode cJ1_charAt_3b067 0 = .ok (.iload_n 1, 1) := by decide +kernel
theorem dJ1_charAt_3b067_1 : decode cJ1_charAt_3b067 1 = .ok (.aload_n 0, 1) := by decide +kernel
theorem dJ1_charAt_3b067_2 : decode cJ1_charAt_3b067 2 = .ok (.arraylength, 1) := by decide +kernel
theorem dJ1_charAt_3b067_3 : decode cJ1_charAt_3b067 3 = .ok (.invokestatic 9, 3) := by decide +kernel
theorem dJ1_charAt_3b067_6 : decode cJ1_charAt_3b067 6 = .ok (.aload_n 0, 1) := by decide +kernel
theorem dJ1_charAt_3b067_7 : decode cJ1_charAt_3b067 7 = .ok (.iload_n 1, 1) := by decide +kernel
theorem dJ1_charAt_3b067_8 : decode cJ1_charAt_3b067 8 = .ok (.baload, 1) := by decide +kernel
theorem dJ1_charAt_3b067_9 : decode cJ1_charAt_3b067 9 = .ok (.sipush 255, 3) := by decide +kernel
theorem dJ1_charAt_3b067_12 : decode cJ1_charAt_3b067 12 = .ok (.iand, 1) := by decide +kernel
theorem dJ1_charAt_3b067_13 : decode cJ1_charAt_3b067 13 = .ok (.i2c, 1) := by decide +kernel
theorem dJ1_charAt_3b067_14 : decode cJ1_charAt_3b067 14 = .ok (.ireturn, 1) := by decide +kernel
theorem dJ1_canEncode_9a6ad_0 : decode cJ1_canEncode_9a6ad 0 = .ok (.iload_n 0, 1) := by decide +kernel
theorem dJ1_canEncode_9a6ad_1 : decode cJ1_canEncode_9a6ad 1 = .ok (.ifCond .lt 14, 3) := by decide +kernel
theorem dJ1_canEncode_9a6ad_4 : decode cJ1_canEncode_9a6ad 4 = .ok (.iload_n 0, 1) := by decide +kernel
theorem dJ1_canEncode_9a6ad_5 : decode cJ1_canEncode_9a6ad 5 = .ok (.sipush 255, 3) := by decide +kernel
theorem dJ1_canEncode_9a6ad_8 : decode cJ1_canEncode_9a6ad 8 = .ok (.if_icmp .gt 7, 3) := by decide +kernel
theorem dJ1_canEncode_9a6ad_11 : decode cJ1_canEncode_9a6ad 11 = .ok (.iconst 1, 1) := by decide +kernel
theorem dJ1_canEncode_9a6ad_12 : decode cJ1_canEncode_9a6ad 12 = .ok (.goto 4, 3) := by decide +kernel
theorem dJ1_canEncode_9a6ad_15 : decode cJ1_canEncode_9a6ad 15 = .ok (.iconst 0, 1) := by decide +kernel
theorem dJ1_canEncode_9a6ad_16 : decode cJ1_canEncode_9a6ad 16 = .ok (.ireturn, 1) := by decide +kernel
theorem dJ1_indexOf_4cfef_0 : decode cJ1_indexOf_4cfef 0 = .ok (.iload_n 1, 1) := by decide +kernel
theorem dJ1_indexOf_4cfef_1 : decode cJ1_indexOf_4cfef 1 = .ok (.invokestatic 88, 3) := by decide +kernel
theorem dJ1_indexOf_4cfef_4 : decode cJ1_indexOf_4cfef 4 = .ok (.ifCond .ne 5, 3) := by decide +kernel
theorem dJ1_indexOf_4cfef_7 : decode cJ1_indexOf_4cfef 7 = .ok (.iconst (-1), 1) := by decide +kernel
theorem dJ1_indexOf_4cfef_8 : decode cJ1_indexOf_4cfef 8 = .ok (.ireturn, 1) := by decide +kernel
theorem dJ1_indexOf_4cfef_9 : decode cJ1_indexOf_4cfef 9 = .ok (.iload_n 2, 1) := by decide +kernel
theorem dJ1_indexOf_4cfef_10 : decode cJ1_indexOf_4cfef 10 = .ok (.iconst 0, 1) := by decide +kernel
theorem dJ1_indexOf_4cfef_11 : decode cJ1_indexOf_4cfef 11 = .ok (.invokestatic 92, 3) := by decide +kernel
theorem dJ1_indexOf_4cfef_14 : decode cJ1_indexOf_4cfef 14 = .ok (.istore_n 2, 1) := by decide +kernel
theorem dJ1_indexOf_4cfef_15 : decode cJ1_indexOf_4cfef 15 = .ok (.iload_n 3, 1) := by decide +kernel
theorem dJ1_indexOf_4cfef_16 : decode cJ1_indexOf_4cfef 16 = .ok (.aload_n 0, 1) := by decide +kernel
theorem dJ1_indexOf_4cfef_17 : decode cJ1_indexOf_4cfef 17 = .ok (.arraylength, 1) := by decide +kernel
theorem dJ1_indexOf_4cfef_18 : decode cJ1_indexOf_4cfef 18 = .ok (.invokestatic 38, 3) := by decide +kernel
theorem dJ1_indexOf_4cfef_21 : decode cJ1_indexOf_4cfef 21 = .ok (.istore_n 3, 1) := by decide +kernel
theorem dJ1_indexOf_4cfef_22 : decode cJ1_indexOf_4cfef 22 = .ok (.iload_n 2, 1) := by decide +kernel
theorem dJ1_indexOf_4cfef_23 : decode cJ1_indexOf_4cfef 23 = .ok (.iload_n 3, 1) := by decide +kernel
theorem dJ1_indexOf_4cfef_24 : decode cJ1_indexOf_4cfef 24 = .ok (.if_icmp .lt 5, 3) := by decide +kernel
theorem dJ1_indexOf_4cfef_27 : decode cJ1_indexOf_4cfef 27 = .ok (.iconst (-1), 1) := by decide +kernel
theorem dJ1_indexOf_4cfef_28 : decode cJ1_indexOf_4cfef 28 = .ok (.ireturn, 1) := by decide +kernel
theorem dJ1_indexOf_4cfef_29 : decode cJ1_indexOf_4cfef 29 = .ok (.aload_n 0, 1) := by decide +kernel
theorem dJ1_indexOf_4cfef_30 : decode cJ1_indexOf_4cfef 30 = .ok (.iload_n 1, 1) := by decide +kernel
theorem dJ1_indexOf_4cfef_31 : decode cJ1_indexOf_4cfef 31 = .ok (.iload_n 2, 1) := by decide +kernel
theorem dJ1_indexOf_4cfef_32 : decode cJ1_indexOf_4cfef 32 = .ok (.iload_n 3, 1) := by decide +kernel
theorem dJ1_indexOf_4cfef_33 : decode cJ1_indexOf_4cfef 33 = .ok (.invokestatic 95, 3) := by decide +kernel
theorem dJ1_indexOf_4cfef_36 : decode cJ1_indexOf_4cfef 36 = .ok (.ireturn, 1) := by decide +kernel
theorem dJ1_indexOfChar_4cfef_0 : decode cJ1_indexOfChar_4cfef 0 = .ok (.iload_n 1, 1) := by decide +kernel
theorem dJ1_indexOfChar_4cfef_1 : decode cJ1_indexOfChar_4cfef 1 = .ok (.i2b, 1) := by decide +kernel
theorem dJ1_indexOfChar_4cfef_2 : decode cJ1_indexOfChar_4cfef 2 = .ok (.istore 4, 2) := by decide +kernel
theorem dJ1_indexOfChar_4cfef_4 : decode cJ1_indexOfChar_4cfef 4 = .ok (.iload_n 2, 1) := by decide +kernel
theorem dJ1_indexOfChar_4cfef_5 : decode cJ1_indexOfChar_4cfef 5 = .ok (.istore 5, 2) := by decide +kernel
theorem dJ1_indexOfChar_4cfef_7 : decode cJ1_indexOfChar_4cfef 7 = .ok (.iload 5, 2) := by decide +kernel
theorem dJ1_indexOfChar_4cfef_9 : decode cJ1_indexOfChar_4cfef 9 = .ok (.iload_n 3, 1) := by decide +kernel
theorem dJ1_indexOfChar_4cfef_10 : decode cJ1_indexOfChar_4cfef 10 = .ok (.if_icmp .ge 21, 3) := by decide +kernel
theorem dJ1_indexOfChar_4cfef_13 : decode cJ1_indexOfChar_4cfef 13 = .ok (.aload_n 0, 1) := by decide +kernel
theorem dJ1_indexOfChar_4cfef_14 : decode cJ1_indexOfChar_4cfef 14 = .ok (.iload 5, 2) := by decide +kernel
theorem dJ1_indexOfChar_4cfef_16 : decode cJ1_indexOfChar_4cfef 16 = .ok (.baload, 1) := by decide +kernel
theorem dJ1_indexOfChar_4cfef_17 : decode cJ1_indexOfChar_4cfef 17 = .ok (.iload 4, 2) := by decide +kernel
theorem dJ1_indexOfChar_4cfef_19 : decode cJ1_indexOfChar_4cfef 19 = .ok (.if_icmp .ne 6, 3) := by decide +kernel
theorem dJ1_indexOfChar_4cfef_22 : decode cJ1_indexOfChar_4cfef 22 = .ok (.iload 5, 2) := by decide +kernel
theorem dJ1_indexOfChar_4cfef_24 : decode cJ1_indexOfChar_4cfef 24 = .ok (.ireturn, 1) := by decide +kernel
theorem dJ1_indexOfChar_4cfef_25 : decode cJ1_indexOfChar_4cfef 25 = .ok (.iinc 5 1, 3) := by decide +kernel
theorem dJ1_indexOfChar_4cfef_28 : decode cJ1_indexOfChar_4cfef 28 = .ok (.goto (-21), 3) := by decide +kernel
theorem dJ1_indexOfChar_4cfef_31 : decode cJ1_indexOfChar_4cfef 31 = .ok (.iconst (-1), 1) := by decide +kernel
theorem dJ1_indexOfChar_4cfef_32 : decode cJ1_indexOfChar_4cfef 32 = .ok (.ireturn, 1) := by decide +kernel
theorem dJ3_checkIndex_8e157_0 : decode cJ3_checkIndex_8e157 0 = .ok (.iload_n 0, 1) := by decide +kernel
theorem dJ3_checkIndex_8e157_1 : decode cJ3_checkIndex_8e157 1 = .ok (.ifCond .lt 8, 3) := by decide +kernel
theorem dJ3_checkIndex_8e157_4 : decode cJ3_checkIndex_8e157 4 = .ok (.iload_n 0, 1) := by decide +kernel
theorem dJ3_checkIndex_8e157_5 : decode cJ3_checkIndex_8e157 5 = .ok (.iload_n 1, 1) := by decide +kernel
theorem dJ3_checkIndex_8e157_6 : decode cJ3_checkIndex_8e157 6 = .ok (.if_icmp .lt 10, 3) := by decide +kernel
theorem dJ3_checkIndex_8e157_9 : decode cJ3_checkIndex_8e157 9 = .ok (.aload_n 2, 1) := by decide +kernel
theorem dJ3_checkIndex_8e157_10 : decode cJ3_checkIndex_8e157 10 = .ok (.iload_n 0, 1) := by decide +kernel
theorem dJ3_checkIndex_8e157_11 : decode cJ3_checkIndex_8e157 11 = .ok (.iload_n 1, 1) := by decide +kernel
theorem dJ3_checkIndex_8e157_12 : decode cJ3_checkIndex_8e157 12 = .ok (.invokestatic 95, 3) := by decide +kernel
theorem dJ3_checkIndex_8e157_15 : decode cJ3_checkIndex_8e157 15 = .ok (.athrow, 1) := by decide +kernel
theorem dJ3_checkIndex_8e157_16 : decode cJ3_checkIndex_8e157 16 = .ok (.iload_n 0, 1) := by decide +kernel
theorem dJ3_checkIndex_8e157_17 : decode cJ3_checkIndex_8e157 17 = .ok (.ireturn, 1) := by decide +kernel
theorem dJ3_checkFromToIndex_8c36e_0 : decode cJ3_checkFromToIndex_8c36e 0 = .ok (.iload_n 0, 1) := by decide +kernel
theorem dJ3_checkFromToIndex_8c36e_1 : decode cJ3_checkFromToIndex_8c36e 1 = .ok (.ifCond .lt 13, 3) := by decide +kernel
theorem dJ3_checkFromToIndex_8c36e_4 : decode cJ3_checkFromToIndex_8c36e 4 = .ok (.iload_n 0, 1) := by decide +kernel
theorem dJ3_checkFromToIndex_8c36e_5 : decode cJ3_checkFromToIndex_8c36e 5 = .ok (.iload_n 1, 1) := by decide +kernel
theorem dJ3_checkFromToIndex_8c36e_6 : decode cJ3_checkFromToIndex_8c36e 6 = .ok (.if_icmp .gt 8, 3) := by decide +kernel
theorem dJ3_checkFromToIndex_8c36e_9 : decode cJ3_checkFromToIndex_8c36e 9 = .ok (.iload_n 1, 1) := by decide +kernel
theorem dJ3_checkFromToIndex_8c36e_10 : decode cJ3_checkFromToIndex_8c36e 10 = .ok (.iload_n 2, 1) := by decide +kernel
theorem dJ3_checkFromToIndex_8c36e_11 : decode cJ3_checkFromToIndex_8c36e 11 = .ok (.if_icmp .le 11, 3) := by decide +kernel
theorem dJ3_checkFromToIndex_8c36e_14 : decode cJ3_checkFromToIndex_8c36e 14 = .ok (.aload_n 3, 1) := by decide +kernel
theorem dJ3_checkFromToIndex_8c36e_15 : decode cJ3_checkFromToIndex_8c36e 15 = .ok (.iload_n 0, 1) := by decide +kernel
theorem dJ3_checkFromToIndex_8c36e_16 : decode cJ3_checkFromToIndex_8c36e 16 = .ok (.iload_n 1, 1) := by decide +kernel
theorem dJ3_checkFromToIndex_8c36e_17 : decode cJ3_checkFromToIndex_8c36e 17 = .ok (.iload_n 2, 1) := by decide +kernel
theorem dJ3_checkFromToIndex_8c36e_18 : decode cJ3_checkFromToIndex_8c36e 18 = .ok (.invokestatic 99, 3) := by decide +kernel
theorem dJ3_checkFromToIndex_8c36e_21 : decode cJ3_checkFromToIndex_8c36e 21 = .ok (.athrow, 1) := by decide +kernel
theorem dJ3_checkFromToIndex_8c36e_22 : decode cJ3_checkFromToIndex_8c36e 22 = .ok (.iload_n 0, 1) := by decide +kernel
theorem dJ3_checkFromToIndex_8c36e_23 : decode cJ3_checkFromToIndex_8c36e 23 = .ok (.ireturn, 1) := by decide +kernel
