theorem dX5_init_0 : decode cX5_init 0 = .ok (.aload_n 0, 1) := by decide +kernel
theorem dX5_init_1 : decode cX5_init 1 = .ok (.invokespecial 1, 3) := by decide +kernel
theorem dX5_init_4 : decode cX5_init 4 = .ok (.aload_n 0, 1) := by decide +kernel
theorem dX5_init_5 : decode cX5_init 5 = .ok (.bipush 41, 2) := by decide +kernel
theorem dX5_init_7 : decode cX5_init 7 = .ok (.newarray .int, 2) := by decide +kernel
theorem dX5_init_9 : decode cX5_init 9 = .ok (.putfield 7, 3) := by decide +kernel
theorem dX5_init_12 : decode cX5_init 12 = .ok (.aload_n 0, 1) := by decide +kernel
theorem dX5_init_13 : decode cX5_init 13 = .ok (.bipush 41, 2) := by decide +kernel
theorem dX5_init_15 : decode cX5_init 15 = .ok (.newarray .int, 2) := by decide +kernel
theorem dX5_init_17 : decode cX5_init 17 = .ok (.putfield 13, 3) := by decide +kernel
theorem dX5_init_20 : decode cX5_init 20 = .ok (.aload_n 0, 1) := by decide +kernel
theorem dX5_init_21 : decode cX5_init 21 = .ok (.bipush 41, 2) := by decide +kernel
theorem dX5_init_23 : decode cX5_init 23 = .ok (.newarray .int, 2) := by decide +kernel
theorem dX5_init_25 : decode cX5_init 25 = .ok (.putfield 16, 3) := by decide +kernel
theorem dX5_init_28 : decode cX5_init 28 = .ok (.aload_n 0, 1) := by decide +kernel
theorem dX5_init_29 : decode cX5_init 29 = .ok (.bipush 41, 2) := by decide +kernel
theorem dX5_init_31 : decode cX5_init 31 = .ok (.newarray .int, 2) := by decide +kernel
theorem dX5_init_33 : decode cX5_init 33 = .ok (.putfield 19, 3) := by decide +kernel
theorem dX5_init_36 : decode cX5_init 36 = .ok (.aload_n 0, 1) := by decide +kernel
theorem dX5_init_37 : decode cX5_init 37 = .ok (.bipush 41, 2) := by decide +kernel
theorem dX5_init_39 : decode cX5_init 39 = .ok (.newarray .int, 2) := by decide +kernel
theorem dX5_init_41 : decode cX5_init 41 = .ok (.putfield 22, 3) := by decide +kernel
theorem dX5_init_44 : decode cX5_init 44 = .ok (.aload_n 0, 1) := by decide +kernel
theorem dX5_init_45 : decode cX5_init 45 = .ok (.bipush 41, 2) := by decide +kernel
theorem dX5_init_47 : decode cX5_init 47 = .ok (.newarray .int, 2) := by decide +kernel
theorem dX5_init_49 : decode cX5_init 49 = .ok (.putfield 25, 3) := by decide +kernel
theorem dX5_init_52 : decode cX5_init 52 = .ok (.aload_n 0, 1) := by decide +kernel
theorem dX5_init_53 : decode cX5_init 53 = .ok (.bipush 41, 2) := by decide +kernel
theorem dX5_init_55 : decode cX5_init 55 = .ok (.newarray .int, 2) := by decide +kernel
theorem dX5_init_57 : decode cX5_init 57 = .ok (.putfield 28, 3) := by decide +kernel
theorem dX5_init_60 : decode cX5_init 60 = .ok (.aload_n 0, 1) := by decide +kernel
theorem dX5_init_61 : decode cX5_init 61 = .ok (.bipush 41, 2) := by decide +kernel
theorem dX5_init_63 : decode cX5_init 63 = .ok (.newarray .boolean, 2) := by decide +kernel
theorem dX5_init_65 : decode cX5_init 65 = .ok (.putfield 31, 3) := by decide +kernel
theorem dX5_init_68 : decode cX5_init 68 = .ok (.aload_n 0, 1) := by decide +kernel
theorem dX5_init_69 : decode cX5_init 69 = .ok (.bipush 8, 2) := by decide +kernel
theorem dX5_init_71 : decode cX5_init 71 = .ok (.newarray .int, 2) := by decide +kernel
theorem dX5_init_73 : decode cX5_init 73 = .ok (.putfield 35, 3) := by decide +kernel
theorem dX5_init_76 : decode cX5_init 76 = .ok (.aload_n 0, 1) := by decide +kernel
theorem dX5_init_77 : decode cX5_init 77 = .ok (.bipush 8, 2) := by decide +kernel
theorem dX5_init_79 : decode cX5_init 79 = .ok (.newarray .int, 2) := by decide +kernel
theorem dX5_init_81 : decode cX5_init 81 = .ok (.putfield 38, 3) := by decide +kernel
theorem dX5_init_84 : decode cX5_init 84 = .ok (.aload_n 0, 1) := by decide +kernel
theorem dX5_init_85 : decode cX5_init 85 = .ok (.bipush 8, 2) := by decide +kernel
theorem dX5_init_87 : decode cX5_init 87 = .ok (.newarray .int, 2) := by decide +kernel
theorem dX5_init_89 : decode cX5_init 89 = .ok (.dup, 1) := by decide +kernel
theorem dX5_init_90 : decode cX5_init 90 = .ok (.iconst 0, 1) := by decide +kernel
theorem dX5_init_91 : decode cX5_init 91 = .ok (.iconst 1, 1) := by decide +kernel
theorem dX5_init_92 : decode cX5_init 92 = .ok (.iastore, 1) := by decide +kernel
theorem dX5_init_93 : decode cX5_init 93 = .ok (.dup, 1) := by decide +kernel
theorem dX5_init_94 : decode cX5_init 94 = .ok (.iconst 1, 1) := by decide +kernel
theorem dX5_init_95 : decode cX5_init 95 = .ok (.iconst 1, 1) := by decide +kernel
theorem dX5_init_96 : decode cX5_init 96 = .ok (.iastore, 1) := by decide +kernel
theorem dX5_init_97 : decode cX5_init 97 = .ok (.dup, 1) := by decide +kernel
theorem dX5_init_98 : decode cX5_init 98 = .ok (.iconst 2, 1) := by decide +kernel
theorem dX5_init_99 : decode cX5_init 99 = .ok (.iconst 1, 1) := by decide +kernel
theorem dX5_init_100 : decode cX5_init 100 = .ok (.iastore, 1) := by decide +kernel
theorem dX5_init_101 : decode cX5_init 101 = .ok (.dup, 1) := by decide +kernel
theorem dX5_init_102 : decode cX5_init 102 = .ok (.iconst 3, 1) := by decide +kernel
theorem dX5_init_103 : decode cX5_init 103 = .ok (.iconst 1, 1) := by decide +kernel
theorem dX5_init_104 : decode cX5_init 104 = .ok (.iastore, 1) := by decide +kernel
theorem dX5_init_105 : decode cX5_init 105 = .ok (.dup, 1) := by decide +kernel
theorem dX5_init_106 : decode cX5_init 106 = .ok (.iconst 4, 1) := by decide +kernel
theorem dX5_init_107 : decode cX5_init 107 = .ok (.iconst 1, 1) := by decide +kernel
theorem dX5_init_108 : decode cX5_init 108 = .ok (.iastore, 1) := by decide +kernel
theorem dX5_init_109 : decode cX5_init 109 = .ok (.dup, 1) := by decide +kernel
theorem dX5_init_110 : decode cX5_init 110 = .ok (.iconst 5, 1) := by decide +kernel
theorem dX5_init_111 : decode cX5_init 111 = .ok (.iconst 1, 1) := by decide +kernel
theorem dX5_init_112 : decode cX5_init 112 = .ok (.iastore, 1) := by decide +kernel
theorem dX5_init_113 : decode cX5_init 113 = .ok (.dup, 1) := by decide +kernel
theorem dX5_init_114 : decode cX5_init 114 = .ok (.bipush 6, 2) := by decide +kernel
theorem dX5_init_116 : decode cX5_init 116 = .ok (.iconst 1, 1) := by decide +kernel
theorem dX5_init_117 : decode cX5_init 117 = .ok (.iastore, 1) := by decide +kernel
theorem dX5_init_118 : decode cX5_init 118 = .ok (.dup, 1) := by decide +kernel
theorem dX5_init_119 : decode cX5_init 119 = .ok (.bipush 7, 2) := by decide +kernel
theorem dX5_init_121 : decode cX5_init 121 = .ok (.iconst 1, 1) := by decide +kernel
theorem dX5_init_122 : decode cX5_init 122 = .ok (.iastore, 1) := by decide +kernel
theorem dX5_init_123 : decode cX5_init 123 = .ok (.putfield 41, 3) := by decide +kernel
theorem dX5_init_126 : decode cX5_init 126 = .ok (.aload_n 0, 1) := by decide +kernel
theorem dX5_init_127 : decode cX5_init 127 = .ok (.bipush 8, 2) := by decide +kernel
theorem dX5_init_129 : decode cX5_init 129 = .ok (.newarray .int, 2) := by decide +kernel
theorem dX5_init_131 : decode cX5_init 131 = .ok (.putfield 44, 3) := by decide +kernel
theorem dX5_init_134 : decode cX5_init 134 = .ok (.aload_n 0, 1) := by decide +kernel
theorem dX5_init_135 : decode cX5_init 135 = .ok (.bipush 121, 2) := by decide +kernel
theorem dX5_init_137 : decode cX5_init 137 = .ok (.newarray .int, 2) := by decide +kernel
theorem dX5_init_139 : decode cX5_init 139 = .ok (.putfield 47, 3) := by decide +kernel
theorem dX5_init_142 : decode cX5_init 142 = .ok (.aload_n 0, 1) := by decide +kernel
theorem dX5_init_143 : decode cX5_init 143 = .ok (.bipush 121, 2) := by decide +kernel
theorem dX5_init_145 : decode cX5_init 145 = .ok (.newarray .int, 2) := by decide +kernel
theorem dX5_init_147 : decode cX5_init 147 = .ok (.putfield 50, 3) := by decide +kernel
theorem dX5_init_150 : decode cX5_init 150 = .ok (.aload_n 0, 1) := by decide +kernel
theorem dX5_init_151 : decode cX5_init 151 = .ok (.bipush 121, 2) := by decide +kernel
theorem dX5_init_153 : decode cX5_init 153 = .ok (.newarray .int, 2) := by decide +kernel
theorem dX5_init_155 : decode cX5_init 155 = .ok (.putfield 53, 3) := by decide +kernel
theorem dX5_init_158 : decode cX5_init 158 = .ok (.aload_n 0, 1) := by decide +kernel
theorem dX5_init_159 : decode cX5_init 159 = .ok (.bipush 121, 2) := by decide +kernel
theorem dX5_init_161 : decode cX5_init 161 = .ok (.newarray .int, 2) := by decide +kernel
theorem dX5_init_163 : decode cX5_init 163 = .ok (.putfield 56, 3) := by decide +kernel
theorem dX5_init_166 : decode cX5_init 166 = .ok (.aload_n 0, 1) := by decide +kernel
theorem dX5_init_167 : decode cX5_init 167 = .ok (.sipush 4961, 3) := by decide +kernel
theorem dX5_init_170 : decode cX5_init 170 = .ok (.newarray .boolean, 2) := by decide +kernel
theorem dX5_init_172 : decode cX5_init 172 = .ok (.putfield 59, 3) := by decide +kernel
theorem dX5_init_175 : decode cX5_init 175 = .ok (.aload_n 0, 1) := by decide +kernel
theorem dX5_init_176 : decode cX5_init 176 = .ok (.sipush 400, 3) := by decide +kernel
theorem dX5_init_179 : decode cX5_init 179 = .ok (.newarray .int, 2) := by decide +kernel
theorem dX5_init_181 : decode cX5_init 181 = .ok (.putfield 62, 3) := by decide +kernel
theorem dX5_init_184 : decode cX5_init 184 = .ok (.aload_n 0, 1) := by decide +kernel
theorem dX5_init_185 : decode cX5_init 185 = .ok (.sipush 400, 3) := by decide +kernel
theorem dX5_init_188 : decode cX5_init 188 = .ok (.newarray .int, 2) := by decide +kernel
theorem dX5_init_190 : decode cX5_init 190 = .ok (.putfield 65, 3) := by decide +kernel
theorem dX5_init_193 : decode cX5_init 193 = .ok (.aload_n 0, 1) := by decide +kernel
theorem dX5_init_194 : decode cX5_init 194 = .ok (.sipush 400, 3) := by decide +kernel
theorem dX5_init_197 : decode cX5_init 197 = .ok (.newarray .int, 2) := by decide +kernel
theorem dX5_init_199 : decode cX5_init 199 = .ok (.putfield 68, 3) := by decide +kernel
theorem dX5_init_202 : decode cX5_init 202 = .ok (.aload_n 0, 1) := by decide +kernel
theorem dX5_init_203 : decode cX5_init 203 = .ok (.iconst 2, 1) := by decide +kernel
theorem dX5_init_204 : decode cX5_init 204 = .ok (.newarray .int, 2) := by decide +kernel
theorem dX5_init_206 : decode cX5_init 206 = .ok (.putfield 71, 3) := by decide +kernel
theorem dX5_init_209 : decode cX5_init 209 = .ok (.aload_n 0, 1) := by decide +kernel
theorem dX5_init_210 : decode cX5_init 210 = .ok (.bipush 41, 2) := by decide +kernel
theorem dX5_init_212 : decode cX5_init 212 = .ok (.newarray .boolean, 2) := by decide +kernel
theorem dX5_init_214 : decode cX5_init 214 = .ok (.putfield 74, 3) := by decide +kernel
theorem dX5_init_217 : decode cX5_init 217 = .ok (.return_, 1) := by decide +kernel
theorem dX5_thrown_0 : decode cX5_thrown 0 = .ok (.aload_n 0, 1) := by decide +kernel
theorem dX5_thrown_1 : decode cX5_thrown 1 = .ok (.getfield 77, 3) := by decide +kernel
theorem dX5_thrown_4 : decode cX5_thrown 4 = .ok (.ireturn, 1) := by decide +kernel
theorem dX5_lot_0 : decode cX5_lot 0 = .ok (.aload_n 0, 1) := by decide +kernel
theorem dX5_lot_1 : decode cX5_lot 1 = .ok (.iload_n 1, 1) := by decide +kernel
theorem dX5_lot_2 : decode cX5_lot 2 = .ok (.iconst 0, 1) := by decide +kernel
theorem dX5_lot_3 : decode cX5_lot 3 = .ok (.bipush 9, 2) := by decide +kernel
theorem dX5_lot_5 : decode cX5_lot 5 = .ok (.invokestatic 84, 3) := by decide +kernel
theorem dX5_lot_8 : decode cX5_lot 8 = .ok (.ifCond .eq 34, 3) := by decide +kernel
theorem dX5_lot_11 : decode cX5_lot 11 = .ok (.iload_n 2, 1) := by decide +kernel
theorem dX5_lot_12 : decode cX5_lot 12 = .ok (.iconst 0, 1) := by decide +kernel
theorem dX5_lot_13 : decode cX5_lot 13 = .ok (.bipush 7, 2) := by decide +kernel
theorem dX5_lot_15 : decode cX5_lot 15 = .ok (.invokestatic 84, 3) := by decide +kernel
theorem dX5_lot_18 : decode cX5_lot 18 = .ok (.ifCond .eq 24, 3) := by decide +kernel
theorem dX5_lot_21 : decode cX5_lot 21 = .ok (.iload_n 3, 1) := by decide +kernel
theorem dX5_lot_22 : decode cX5_lot 22 = .ok (.iconst 0, 1) := by decide +kernel
theorem dX5_lot_23 : decode cX5_lot 23 = .ok (.ldc 91, 2) := by decide +kernel
theorem dX5_lot_25 : decode cX5_lot 25 = .ok (.invokestatic 84, 3) := by decide +kernel
theorem dX5_lot_28 : decode cX5_lot 28 = .ok (.ifCond .eq 14, 3) := by decide +kernel
theorem dX5_lot_31 : decode cX5_lot 31 = .ok (.iload 4, 2) := by decide +kernel
theorem dX5_lot_33 : decode cX5_lot 33 = .ok (.iconst 0, 1) := by decide +kernel
theorem dX5_lot_34 : decode cX5_lot 34 = .ok (.ldc 91, 2) := by decide +kernel
theorem dX5_lot_36 : decode cX5_lot 36 = .ok (.invokestatic 84, 3) := by decide +kernel
theorem dX5_lot_39 : decode cX5_lot 39 = .ok (.ifCond .ne 7, 3) := by decide +kernel
theorem dX5_lot_42 : decode cX5_lot 42 = .ok (.iconst 1, 1) := by decide +kernel
theorem dX5_lot_43 : decode cX5_lot 43 = .ok (.goto 37, 3) := by decide +kernel
theorem dX5_lot_46 : decode cX5_lot 46 = .ok (.iload_n 3, 1) := by decide +kernel
theorem dX5_lot_47 : decode cX5_lot 47 = .ok (.iload 4, 2) := by decide +kernel
theorem dX5_lot_49 : decode cX5_lot 49 = .ok (.if_icmp .ge 7, 3) := by decide +kernel
theorem dX5_lot_52 : decode cX5_lot 52 = .ok (.iconst 0, 1) := by decide +kernel
theorem dX5_lot_53 : decode cX5_lot 53 = .ok (.goto 27, 3) := by decide +kernel
theorem dX5_lot_56 : decode cX5_lot 56 = .ok (.aload_n 0, 1) := by decide +kernel
theorem dX5_lot_57 : decode cX5_lot 57 = .ok (.getfield 81, 3) := by decide +kernel
theorem dX5_lot_60 : decode cX5_lot 60 = .ok (.bipush 40, 2) := by decide +kernel
theorem dX5_lot_62 : decode cX5_lot 62 = .ok (.if_icmp .eq 13, 3) := by decide +kernel
theorem dX5_lot_65 : decode cX5_lot 65 = .ok (.aload_n 0, 1) := by decide +kernel
theorem dX5_lot_66 : decode cX5_lot 66 = .ok (.getfield 88, 3) := by decide +kernel
theorem dX5_lot_69 : decode cX5_lot 69 = .ok (.sipush 400, 3) := by decide +kernel
theorem dX5_lot_72 : decode cX5_lot 72 = .ok (.if_icmp .ne 7, 3) := by decide +kernel
theorem dX5_lot_75 : decode cX5_lot 75 = .ok (.iconst 2, 1) := by decide +kernel
theorem dX5_lot_76 : decode cX5_lot 76 = .ok (.goto 4, 3) := by decide +kernel
theorem dX5_lot_79 : decode cX5_lot 79 = .ok (.iconst 0, 1) := by decide +kernel
theorem dX5_lot_80 : decode cX5_lot 80 = .ok (.putfield 77, 3) := by decide +kernel
theorem dX5_lot_83 : decode cX5_lot 83 = .ok (.aload_n 0, 1) := by decide +kernel
theorem dX5_lot_84 : decode cX5_lot 84 = .ok (.getfield 77, 3) := by decide +kernel
theorem dX5_lot_87 : decode cX5_lot 87 = .ok (.ifCond .gt 9, 3) := by decide +kernel
theorem dX5_lot_90 : decode cX5_lot 90 = .ok (.iload_n 3, 1) := by decide +kernel
theorem dX5_lot_91 : decode cX5_lot 91 = .ok (.iload 4, 2) := by decide +kernel
theorem dX5_lot_93 : decode cX5_lot 93 = .ok (.if_icmp .ge 5, 3) := by decide +kernel
theorem dX5_lot_96 : decode cX5_lot 96 = .ok (.iconst 0, 1) := by decide +kernel
theorem dX5_lot_97 : decode cX5_lot 97 = .ok (.ireturn, 1) := by decide +kernel
theorem dX5_lot_98 : decode cX5_lot 98 = .ok (.aload_n 0, 1) := by decide +kernel
theorem dX5_lot_99 : decode cX5_lot 99 = .ok (.iload_n 1, 1) := by decide +kernel
theorem dX5_lot_100 : decode cX5_lot 100 = .ok (.iload_n 2, 1) := by decide +kernel
theorem dX5_lot_101 : decode cX5_lot 101 = .ok (.iload_n 3, 1) := by decide +kernel
theorem dX5_lot_102 : decode cX5_lot 102 = .ok (.iload 4, 2) := by decide +kernel
theorem dX5_lot_104 : decode cX5_lot 104 = .ok (.iconst 0, 1) := by decide +kernel
theorem dX5_lot_105 : decode cX5_lot 105 = .ok (.invokevirtual 92, 3) := by decide +kernel
theorem dX5_lot_108 : decode cX5_lot 108 = .ok (.istore 5, 2) := by decide +kernel
theorem dX5_lot_110 : decode cX5_lot 110 = .ok (.aload_n 0, 1) := by decide +kernel
theorem dX5_lot_111 : decode cX5_lot 111 = .ok (.iload 5, 2) := by decide +kernel
theorem dX5_lot_113 : decode cX5_lot 113 = .ok (.iconst 1, 1) := by decide +kernel
theorem dX5_lot_114 : decode cX5_lot 114 = .ok (.iconst 0, 1) := by decide +kernel
theorem dX5_lot_115 : decode cX5_lot 115 = .ok (.invokevirtual 96, 3) := by decide +kernel
theorem dX5_lot_118 : decode cX5_lot 118 = .ok (.iload 5, 2) := by decide +kernel
theorem dX5_lot_120 : decode cX5_lot 120 = .ok (.ireturn, 1) := by decide +kernel
theorem dX5_in_0 : decode cX5_in 0 = .ok (.iload_n 0, 1) := by decide +kernel
theorem dX5_in_1 : decode cX5_in 1 = .ok (.iload_n 1, 1) := by decide +kernel
theorem dX5_in_2 : decode cX5_in 2 = .ok (.if_icmp .lt 12, 3) := by decide +kernel
theorem dX5_in_5 : decode cX5_in 5 = .ok (.iload_n 0, 1) := by decide +kernel
theorem dX5_in_6 : decode cX5_in 6 = .ok (.iload_n 2, 1) := by decide +kernel
theorem dX5_in_7 : decode cX5_in 7 = .ok (.if_icmp .gt 7, 3) := by decide +kernel
theorem dX5_in_10 : decode cX5_in 10 = .ok (.iconst 1, 1) := by decide +kernel
theorem dX5_in_11 : decode cX5_in 11 = .ok (.goto 4, 3) := by decide +kernel
theorem dX5_in_14 : decode cX5_in 14 = .ok (.iconst 0, 1) := by decide +kernel
theorem dX5_in_15 : decode cX5_in 15 = .ok (.ireturn, 1) := by decide +kernel
theorem dX5_make_0 : decode cX5_make 0 = .ok (.aload_n 0, 1) := by decide +kernel
theorem dX5_make_1 : decode cX5_make 1 = .ok (.dup, 1) := by decide +kernel
theorem dX5_make_2 : decode cX5_make 2 = .ok (.getfield 81, 3) := by decide +kernel
theorem dX5_make_5 : decode cX5_make 5 = .ok (.iconst 1, 1) := by decide +kernel
theorem dX5_make_6 : decode cX5_make 6 = .ok (.iadd, 1) := by decide +kernel
theorem dX5_make_7 : decode cX5_make 7 = .ok (.putfield 81, 3) := by decide +kernel
theorem dX5_make_10 : decode cX5_make 10 = .ok (.aload_n 0, 1) := by decide +kernel
theorem dX5_make_11 : decode cX5_make 11 = .ok (.getfield 7, 3) := by decide +kernel
theorem dX5_make_14 : decode cX5_make 14 = .ok (.aload_n 0, 1) := by decide +kernel
theorem dX5_make_15 : decode cX5_make 15 = .ok (.getfield 81, 3) := by decide +kernel
theorem dX5_make_18 : decode cX5_make 18 = .ok (.iload_n 1, 1) := by decide +kernel
theorem dX5_make_19 : decode cX5_make 19 = .ok (.iastore, 1) := by decide +kernel
theorem dX5_make_20 : decode cX5_make 20 = .ok (.aload_n 0, 1) := by decide +kernel
theorem dX5_make_21 : decode cX5_make 21 = .ok (.getfield 13, 3) := by decide +kernel
theorem dX5_make_24 : decode cX5_make 24 = .ok (.aload_n 0, 1) := by decide +kernel
theorem dX5_make_25 : decode cX5_make 25 = .ok (.getfield 81, 3) := by decide +kernel
theorem dX5_make_28 : decode cX5_make 28 = .ok (.iload_n 2, 1) := by decide +kernel
theorem dX5_make_29 : decode cX5_make 29 = .ok (.iastore, 1) := by decide +kernel
theorem dX5_make_30 : decode cX5_make 30 = .ok (.aload_n 0, 1) := by decide +kernel
theorem dX5_make_31 : decode cX5_make 31 = .ok (.getfield 16, 3) := by decide +kernel
theorem dX5_make_34 : decode cX5_make 34 = .ok (.aload_n 0, 1) := by decide +kernel
theorem dX5_make_35 : decode cX5_make 35 = .ok (.getfield 81, 3) := by decide +kernel
theorem dX5_make_38 : decode cX5_make 38 = .ok (.iload_n 3, 1) := by decide +kernel
theorem dX5_make_39 : decode cX5_make 39 = .ok (.iastore, 1) := by decide +kernel
theorem dX5_make_40 : decode cX5_make 40 = .ok (.aload_n 0, 1) := by decide +kernel
theorem dX5_make_41 : decode cX5_make 41 = .ok (.getfield 19, 3) := by decide +kernel
theorem dX5_make_44 : decode cX5_make 44 = .ok (.aload_n 0, 1) := by decide +kernel
theorem dX5_make_45 : decode cX5_make 45 = .ok (.getfield 81, 3) := by decide +kernel
theorem dX5_make_48 : decode cX5_make 48 = .ok (.iload 4, 2) := by decide +kernel
theorem dX5_make_50 : decode cX5_make 50 = .ok (.iastore, 1) := by decide +kernel
theorem dX5_make_51 : decode cX5_make 51 = .ok (.aload_n 0, 1) := by decide +kernel
theorem dX5_make_52 : decode cX5_make 52 = .ok (.getfield 22, 3) := by decide +kernel
theorem dX5_make_55 : decode cX5_make 55 = .ok (.aload_n 0, 1) := by decide +kernel
theorem dX5_make_56 : decode cX5_make 56 = .ok (.getfield 81, 3) := by decide +kernel
theorem dX5_make_59 : decode cX5_make 59 = .ok (.iload 5, 2) := by decide +kernel
theorem dX5_make_61 : decode cX5_make 61 = .ok (.iastore, 1) := by decide +kernel
theorem dX5_make_62 : decode cX5_make 62 = .ok (.aload_n 0, 1) := by decide +kernel
theorem dX5_make_63 : decode cX5_make 63 = .ok (.getfield 81, 3) := by decide +kernel
theorem dX5_make_66 : decode cX5_make 66 = .ok (.ireturn, 1) := by decide +kernel
theorem dX5_row_0 : decode cX5_row 0 = .ok (.aload_n 0, 1) := by decide +kernel
theorem dX5_row_1 : decode cX5_row 1 = .ok (.getfield 62, 3) := by decide +kernel
theorem dX5_row_4 : decode cX5_row 4 = .ok (.aload_n 0, 1) := by decide +kernel
theorem dX5_row_5 : decode cX5_row 5 = .ok (.getfield 88, 3) := by decide +kernel
theorem dX5_row_8 : decode cX5_row 8 = .ok (.iload_n 1, 1) := by decide +kernel
theorem dX5_row_9 : decode cX5_row 9 = .ok (.iastore, 1) := by decide +kernel
theorem dX5_row_10 : decode cX5_row 10 = .ok (.aload_n 0, 1) := by decide +kernel
theorem dX5_row_11 : decode cX5_row 11 = .ok (.getfield 65, 3) := by decide +kernel
theorem dX5_row_14 : decode cX5_row 14 = .ok (.aload_n 0, 1) := by decide +kernel
theorem dX5_row_15 : decode cX5_row 15 = .ok (.getfield 88, 3) := by decide +kernel
theorem dX5_row_18 : decode cX5_row 18 = .ok (.iload_n 2, 1) := by decide +kernel
theorem dX5_row_19 : decode cX5_row 19 = .ok (.iastore, 1) := by decide +kernel
theorem dX5_row_20 : decode cX5_row 20 = .ok (.aload_n 0, 1) := by decide +kernel
theorem dX5_row_21 : decode cX5_row 21 = .ok (.getfield 68, 3) := by decide +kernel
theorem dX5_row_24 : decode cX5_row 24 = .ok (.aload_n 0, 1) := by decide +kernel
theorem dX5_row_25 : decode cX5_row 25 = .ok (.getfield 88, 3) := by decide +kernel
theorem dX5_row_28 : decode cX5_row 28 = .ok (.iload_n 3, 1) := by decide +kernel
theorem dX5_row_29 : decode cX5_row 29 = .ok (.iastore, 1) := by decide +kernel
theorem dX5_row_30 : decode cX5_row 30 = .ok (.aload_n 0, 1) := by decide +kernel
theorem dX5_row_31 : decode cX5_row 31 = .ok (.dup, 1) := by decide +kernel
theorem dX5_row_32 : decode cX5_row 32 = .ok (.getfield 88, 3) := by decide +kernel
theorem dX5_row_35 : decode cX5_row 35 = .ok (.iconst 1, 1) := by decide +kernel
theorem dX5_row_36 : decode cX5_row 36 = .ok (.iadd, 1) := by decide +kernel
theorem dX5_row_37 : decode cX5_row 37 = .ok (.putfield 88, 3) := by decide +kernel
theorem dX5_row_40 : decode cX5_row 40 = .ok (.return_, 1) := by decide +kernel
theorem dX5_rule_0 : decode cX5_rule 0 = .ok (.aload_n 0, 1) := by decide +kernel
theorem dX5_rule_1 : decode cX5_rule 1 = .ok (.iload_n 1, 1) := by decide +kernel
theorem dX5_rule_2 : decode cX5_rule 2 = .ok (.iconst 0, 1) := by decide +kernel
theorem dX5_rule_3 : decode cX5_rule 3 = .ok (.bipush 7, 2) := by decide +kernel
theorem dX5_rule_5 : decode cX5_rule 5 = .ok (.invokestatic 84, 3) := by decide +kernel
theorem dX5_rule_8 : decode cX5_rule 8 = .ok (.ifCond .eq 31, 3) := by decide +kernel
theorem dX5_rule_11 : decode cX5_rule 11 = .ok (.iload_n 2, 1) := by decide +kernel
theorem dX5_rule_12 : decode cX5_rule 12 = .ok (.iconst 0, 1) := by decide +kernel
theorem dX5_rule_13 : decode cX5_rule 13 = .ok (.iconst 1, 1) := by decide +kernel
theorem dX5_rule_14 : decode cX5_rule 14 = .ok (.invokestatic 84, 3) := by decide +kernel
theorem dX5_rule_17 : decode cX5_rule 17 = .ok (.ifCond .eq 22, 3) := by decide +kernel
theorem dX5_rule_20 : decode cX5_rule 20 = .ok (.iload_n 3, 1) := by decide +kernel
theorem dX5_rule_21 : decode cX5_rule 21 = .ok (.iconst 0, 1) := by decide +kernel
theorem dX5_rule_22 : decode cX5_rule 22 = .ok (.iload_n 2, 1) := by decide +kernel
theorem dX5_rule_23 : decode cX5_rule 23 = .ok (.ifCond .ne 7, 3) := by decide +kernel
theorem dX5_rule_26 : decode cX5_rule 26 = .ok (.iconst 2, 1) := by decide +kernel
theorem dX5_rule_27 : decode cX5_rule 27 = .ok (.goto 6, 3) := by decide +kernel
theorem dX5_rule_30 : decode cX5_rule 30 = .ok (.sipush 1000, 3) := by decide +kernel
theorem dX5_rule_33 : decode cX5_rule 33 = .ok (.invokestatic 84, 3) := by decide +kernel
theorem dX5_rule_36 : decode cX5_rule 36 = .ok (.ifCond .ne 7, 3) := by decide +kernel
theorem dX5_rule_39 : decode cX5_rule 39 = .ok (.iconst 1, 1) := by decide +kernel
theorem dX5_rule_40 : decode cX5_rule 40 = .ok (.goto 4, 3) := by decide +kernel
theorem dX5_rule_43 : decode cX5_rule 43 = .ok (.iconst 0, 1) := by decide +kernel
theorem dX5_rule_44 : decode cX5_rule 44 = .ok (.putfield 77, 3) := by decide +kernel
theorem dX5_rule_47 : decode cX5_rule 47 = .ok (.aload_n 0, 1) := by decide +kernel
theorem dX5_rule_48 : decode cX5_rule 48 = .ok (.getfield 77, 3) := by decide +kernel
theorem dX5_rule_51 : decode cX5_rule 51 = .ok (.ifCond .le 4, 3) := by decide +kernel
theorem dX5_rule_54 : decode cX5_rule 54 = .ok (.return_, 1) := by decide +kernel
theorem dX5_rule_55 : decode cX5_rule 55 = .ok (.iload_n 2, 1) := by decide +kernel
theorem dX5_rule_56 : decode cX5_rule 56 = .ok (.ifCond .ne 13, 3) := by decide +kernel
theorem dX5_rule_59 : decode cX5_rule 59 = .ok (.aload_n 0, 1) := by decide +kernel
theorem dX5_rule_60 : decode cX5_rule 60 = .ok (.getfield 35, 3) := by decide +kernel
theorem dX5_rule_63 : decode cX5_rule 63 = .ok (.iload_n 1, 1) := by decide +kernel
theorem dX5_rule_64 : decode cX5_rule 64 = .ok (.iload_n 3, 1) := by decide +kernel
theorem dX5_rule_65 : decode cX5_rule 65 = .ok (.iastore, 1) := by decide +kernel
theorem dX5_rule_66 : decode cX5_rule 66 = .ok (.goto 10, 3) := by decide +kernel
theorem dX5_rule_69 : decode cX5_rule 69 = .ok (.aload_n 0, 1) := by decide +kernel
theorem dX5_rule_70 : decode cX5_rule 70 = .ok (.getfield 38, 3) := by decide +kernel
theorem dX5_rule_73 : decode cX5_rule 73 = .ok (.iload_n 1, 1) := by decide +kernel
theorem dX5_rule_74 : decode cX5_rule 74 = .ok (.iload_n 3, 1) := by decide +kernel
theorem dX5_rule_75 : decode cX5_rule 75 = .ok (.iastore, 1) := by decide +kernel
theorem dX5_rule_76 : decode cX5_rule 76 = .ok (.return_, 1) := by decide +kernel
theorem dX5_wants_0 : decode cX5_wants 0 = .ok (.aload_n 0, 1) := by decide +kernel
theorem dX5_wants_1 : decode cX5_wants 1 = .ok (.iload_n 1, 1) := by decide +kernel
theorem dX5_wants_2 : decode cX5_wants 2 = .ok (.iconst 0, 1) := by decide +kernel
theorem dX5_wants_3 : decode cX5_wants 3 = .ok (.bipush 7, 2) := by decide +kernel
theorem dX5_wants_5 : decode cX5_wants 5 = .ok (.invokestatic 84, 3) := by decide +kernel
theorem dX5_wants_8 : decode cX5_wants 8 = .ok (.ifCond .eq 14, 3) := by decide +kernel
theorem dX5_wants_11 : decode cX5_wants 11 = .ok (.iload_n 2, 1) := by decide +kernel
theorem dX5_wants_12 : decode cX5_wants 12 = .ok (.iconst 1, 1) := by decide +kernel
theorem dX5_wants_13 : decode cX5_wants 13 = .ok (.sipush 1000, 3) := by decide +kernel
theorem dX5_wants_16 : decode cX5_wants 16 = .ok (.invokestatic 84, 3) := by decide +kernel
theorem dX5_wants_19 : decode cX5_wants 19 = .ok (.ifCond .ne 7, 3) := by decide +kernel
theorem dX5_wants_22 : decode cX5_wants 22 = .ok (.iconst 1, 1) := by decide +kernel
theorem dX5_wants_23 : decode cX5_wants 23 = .ok (.goto 4, 3) := by decide +kernel
theorem dX5_wants_26 : decode cX5_wants 26 = .ok (.iconst 0, 1) := by decide +kernel
theorem dX5_wants_27 : decode cX5_wants 27 = .ok (.putfield 77, 3) := by decide +kernel
theorem dX5_wants_30 : decode cX5_wants 30 = .ok (.aload_n 0, 1) := by decide +kernel
theorem dX5_wants_31 : decode cX5_wants 31 = .ok (.getfield 77, 3) := by decide +kernel
theorem dX5_wants_34 : decode cX5_wants 34 = .ok (.ifCond .ne 10, 3) := by decide +kernel
theorem dX5_wants_37 : decode cX5_wants 37 = .ok (.aload_n 0, 1) := by decide +kernel
theorem dX5_wants_38 : decode cX5_wants 38 = .ok (.getfield 41, 3) := by decide +kernel
theorem dX5_wants_41 : decode cX5_wants 41 = .ok (.iload_n 1, 1) := by decide +kernel
theorem dX5_wants_42 : decode cX5_wants 42 = .ok (.iload_n 2, 1) := by decide +kernel
theorem dX5_wants_43 : decode cX5_wants 43 = .ok (.iastore, 1) := by decide +kernel
theorem dX5_wants_44 : decode cX5_wants 44 = .ok (.return_, 1) := by decide +kernel
theorem dX5_right_0 : decode cX5_right 0 = .ok (.aload_n 0, 1) := by decide +kernel
theorem dX5_right_1 : decode cX5_right 1 = .ok (.iload_n 1, 1) := by decide +kernel
theorem dX5_right_2 : decode cX5_right 2 = .ok (.iconst 0, 1) := by decide +kernel
theorem dX5_right_3 : decode cX5_right 3 = .ok (.bipush 7, 2) := by decide +kernel
theorem dX5_right_5 : decode cX5_right 5 = .ok (.invokestatic 84, 3) := by decide +kernel
theorem dX5_right_8 : decode cX5_right 8 = .ok (.ifCond .eq 13, 3) := by decide +kernel
theorem dX5_right_11 : decode cX5_right 11 = .ok (.iload_n 2, 1) := by decide +kernel
theorem dX5_right_12 : decode cX5_right 12 = .ok (.iconst 1, 1) := by decide +kernel
theorem dX5_right_13 : decode cX5_right 13 = .ok (.bipush 9, 2) := by decide +kernel
theorem dX5_right_15 : decode cX5_right 15 = .ok (.invokestatic 84, 3) := by decide +kernel
theorem dX5_right_18 : decode cX5_right 18 = .ok (.ifCond .ne 7, 3) := by decide +kernel
theorem dX5_right_21 : decode cX5_right 21 = .ok (.iconst 1, 1) := by decide +kernel
theorem dX5_right_22 : decode cX5_right 22 = .ok (.goto 4, 3) := by decide +kernel
theorem dX5_right_25 : decode cX5_right 25 = .ok (.iconst 0, 1) := by decide +kernel
theorem dX5_right_26 : decode cX5_right 26 = .ok (.putfield 77, 3) := by decide +kernel
theorem dX5_right_29 : decode cX5_right 29 = .ok (.aload_n 0, 1) := by decide +kernel
theorem dX5_right_30 : decode cX5_right 30 = .ok (.getfield 77, 3) := by decide +kernel
theorem dX5_right_33 : decode cX5_right 33 = .ok (.ifCond .ne 38, 3) := by decide +kernel
theorem dX5_right_36 : decode cX5_right 36 = .ok (.aload_n 0, 1) := by decide +kernel
theorem dX5_right_37 : decode cX5_right 37 = .ok (.getfield 44, 3) := by decide +kernel
theorem dX5_right_40 : decode cX5_right 40 = .ok (.iload_n 1, 1) := by decide +kernel
theorem dX5_right_41 : decode cX5_right 41 = .ok (.iload_n 3, 1) := by decide +kernel
theorem dX5_right_42 : decode cX5_right 42 = .ok (.ifCond .eq 16, 3) := by decide +kernel
theorem dX5_right_45 : decode cX5_right 45 = .ok (.aload_n 0, 1) := by decide +kernel
theorem dX5_right_46 : decode cX5_right 46 = .ok (.getfield 44, 3) := by decide +kernel
theorem dX5_right_49 : decode cX5_right 49 = .ok (.iload_n 1, 1) := by decide +kernel
theorem dX5_right_50 : decode cX5_right 50 = .ok (.iaload, 1) := by decide +kernel
theorem dX5_right_51 : decode cX5_right 51 = .ok (.iconst 1, 1) := by decide +kernel
theorem dX5_right_52 : decode cX5_right 52 = .ok (.iload_n 2, 1) := by decide +kernel
theorem dX5_right_53 : decode cX5_right 53 = .ok (.ishl, 1) := by decide +kernel
theorem dX5_right_54 : decode cX5_right 54 = .ok (.ior, 1) := by decide +kernel
theorem dX5_right_55 : decode cX5_right 55 = .ok (.goto 15, 3) := by decide +kernel
theorem dX5_right_58 : decode cX5_right 58 = .ok (.aload_n 0, 1) := by decide +kernel
theorem dX5_right_59 : decode cX5_right 59 = .ok (.getfield 44, 3) := by decide +kernel
theorem dX5_right_62 : decode cX5_right 62 = .ok (.iload_n 1, 1) := by decide +kernel
theorem dX5_right_63 : decode cX5_right 63 = .ok (.iaload, 1) := by decide +kernel
theorem dX5_right_64 : decode cX5_right 64 = .ok (.iconst 1, 1) := by decide +kernel
theorem dX5_right_65 : decode cX5_right 65 = .ok (.iload_n 2, 1) := by decide +kernel
theorem dX5_right_66 : decode cX5_right 66 = .ok (.ishl, 1) := by decide +kernel
theorem dX5_right_67 : decode cX5_right 67 = .ok (.iconst (-1), 1) := by decide +kernel
theorem dX5_right_68 : decode cX5_right 68 = .ok (.ixor, 1) := by decide +kernel
theorem dX5_right_69 : decode cX5_right 69 = .ok (.iand, 1) := by decide +kernel
theorem dX5_right_70 : decode cX5_right 70 = .ok (.iastore, 1) := by decide +kernel
theorem dX5_right_71 : decode cX5_right 71 = .ok (.return_, 1) := by decide +kernel
theorem dX5_block_0 : decode cX5_block 0 = .ok (.aload_n 0, 1) := by decide +kernel
theorem dX5_block_1 : decode cX5_block 1 = .ok (.aload_n 0, 1) := by decide +kernel
theorem dX5_block_2 : decode cX5_block 2 = .ok (.iload_n 1, 1) := by decide +kernel
theorem dX5_block_3 : decode cX5_block 3 = .ok (.invokevirtual 100, 3) := by decide +kernel
theorem dX5_block_6 : decode cX5_block 6 = .ok (.ifCond .ne 7, 3) := by decide +kernel
theorem dX5_block_9 : decode cX5_block 9 = .ok (.iconst 1, 1) := by decide +kernel
theorem dX5_block_10 : decode cX5_block 10 = .ok (.goto 18, 3) := by decide +kernel
theorem dX5_block_13 : decode cX5_block 13 = .ok (.iload_n 2, 1) := by decide +kernel
theorem dX5_block_14 : decode cX5_block 14 = .ok (.iconst 1, 1) := by decide +kernel
theorem dX5_block_15 : decode cX5_block 15 = .ok (.bipush 9, 2) := by decide +kernel
theorem dX5_block_17 : decode cX5_block 17 = .ok (.invokestatic 84, 3) := by decide +kernel
theorem dX5_block_20 : decode cX5_block 20 = .ok (.ifCond .ne 7, 3) := by decide +kernel
theorem dX5_block_23 : decode cX5_block 23 = .ok (.iconst 2, 1) := by decide +kernel
theorem dX5_block_24 : decode cX5_block 24 = .ok (.goto 4, 3) := by decide +kernel
theorem dX5_block_27 : decode cX5_block 27 = .ok (.iconst 0, 1) := by decide +kernel
theorem dX5_block_28 : decode cX5_block 28 = .ok (.putfield 77, 3) := by decide +kernel
theorem dX5_block_31 : decode cX5_block 31 = .ok (.aload_n 0, 1) := by decide +kernel
theorem dX5_block_32 : decode cX5_block 32 = .ok (.getfield 77, 3) := by decide +kernel
theorem dX5_block_35 : decode cX5_block 35 = .ok (.ifCond .ne 48, 3) := by decide +kernel
theorem dX5_block_38 : decode cX5_block 38 = .ok (.aload_n 0, 1) := by decide +kernel
theorem dX5_block_39 : decode cX5_block 39 = .ok (.aload_n 0, 1) := by decide +kernel
theorem dX5_block_40 : decode cX5_block 40 = .ok (.iload_n 1, 1) := by decide +kernel
theorem dX5_block_41 : decode cX5_block 41 = .ok (.invokevirtual 104, 3) := by decide +kernel
theorem dX5_block_44 : decode cX5_block 44 = .ok (.ifCond .eq 17, 3) := by decide +kernel
theorem dX5_block_47 : decode cX5_block 47 = .ok (.aload_n 0, 1) := by decide +kernel
theorem dX5_block_48 : decode cX5_block 48 = .ok (.getfield 28, 3) := by decide +kernel
theorem dX5_block_51 : decode cX5_block 51 = .ok (.iload_n 1, 1) := by decide +kernel
theorem dX5_block_52 : decode cX5_block 52 = .ok (.iaload, 1) := by decide +kernel
theorem dX5_block_53 : decode cX5_block 53 = .ok (.iload_n 2, 1) := by decide +kernel
theorem dX5_block_54 : decode cX5_block 54 = .ok (.ishr, 1) := by decide +kernel
theorem dX5_block_55 : decode cX5_block 55 = .ok (.iconst 1, 1) := by decide +kernel
theorem dX5_block_56 : decode cX5_block 56 = .ok (.iand, 1) := by decide +kernel
theorem dX5_block_57 : decode cX5_block 57 = .ok (.iconst 1, 1) := by decide +kernel
theorem dX5_block_58 : decode cX5_block 58 = .ok (.if_icmp .ne 7, 3) := by decide +kernel
theorem dX5_block_61 : decode cX5_block 61 = .ok (.iconst 3, 1) := by decide +kernel
theorem dX5_block_62 : decode cX5_block 62 = .ok (.goto 18, 3) := by decide +kernel
theorem dX5_block_65 : decode cX5_block 65 = .ok (.aload_n 0, 1) := by decide +kernel
theorem dX5_block_66 : decode cX5_block 66 = .ok (.getfield 88, 3) := by decide +kernel
theorem dX5_block_69 : decode cX5_block 69 = .ok (.sipush 400, 3) := by decide +kernel
theorem dX5_block_72 : decode cX5_block 72 = .ok (.if_icmp .ne 7, 3) := by decide +kernel
theorem dX5_block_75 : decode cX5_block 75 = .ok (.iconst 4, 1) := by decide +kernel
theorem dX5_block_76 : decode cX5_block 76 = .ok (.goto 4, 3) := by decide +kernel
theorem dX5_block_79 : decode cX5_block 79 = .ok (.iconst 0, 1) := by decide +kernel
theorem dX5_block_80 : decode cX5_block 80 = .ok (.putfield 77, 3) := by decide +kernel
theorem dX5_block_83 : decode cX5_block 83 = .ok (.aload_n 0, 1) := by decide +kernel
theorem dX5_block_84 : decode cX5_block 84 = .ok (.getfield 77, 3) := by decide +kernel
theorem dX5_block_87 : decode cX5_block 87 = .ok (.ifCond .le 5, 3) := by decide +kernel
theorem dX5_block_90 : decode cX5_block 90 = .ok (.iconst 0, 1) := by decide +kernel
theorem dX5_block_91 : decode cX5_block 91 = .ok (.ireturn, 1) := by decide +kernel
theorem dX5_block_92 : decode cX5_block 92 = .ok (.aload_n 0, 1) := by decide +kernel
theorem dX5_block_93 : decode cX5_block 93 = .ok (.getfield 28, 3) := by decide +kernel
theorem dX5_block_96 : decode cX5_block 96 = .ok (.iload_n 1, 1) := by decide +kernel
theorem dX5_block_97 : decode cX5_block 97 = .ok (.dup2, 1) := by decide +kernel
theorem dX5_block_98 : decode cX5_block 98 = .ok (.iaload, 1) := by decide +kernel
theorem dX5_block_99 : decode cX5_block 99 = .ok (.iconst 1, 1) := by decide +kernel
theorem dX5_block_100 : decode cX5_block 100 = .ok (.iload_n 2, 1) := by decide +kernel
theorem dX5_block_101 : decode cX5_block 101 = .ok (.ishl, 1) := by decide +kernel
theorem dX5_block_102 : decode cX5_block 102 = .ok (.ior, 1) := by decide +kernel
theorem dX5_block_103 : decode cX5_block 103 = .ok (.iastore, 1) := by decide +kernel
theorem dX5_block_104 : decode cX5_block 104 = .ok (.aload_n 0, 1) := by decide +kernel
theorem dX5_block_105 : decode cX5_block 105 = .ok (.iload_n 1, 1) := by decide +kernel
theorem dX5_block_106 : decode cX5_block 106 = .ok (.bipush 6, 2) := by decide +kernel
theorem dX5_block_108 : decode cX5_block 108 = .ok (.iload_n 2, 1) := by decide +kernel
theorem dX5_block_109 : decode cX5_block 109 = .ok (.invokevirtual 96, 3) := by decide +kernel
theorem dX5_block_112 : decode cX5_block 112 = .ok (.aload_n 0, 1) := by decide +kernel
theorem dX5_block_113 : decode cX5_block 113 = .ok (.getfield 28, 3) := by decide +kernel
theorem dX5_block_116 : decode cX5_block 116 = .ok (.iload_n 1, 1) := by decide +kernel
theorem dX5_block_117 : decode cX5_block 117 = .ok (.iaload, 1) := by decide +kernel
theorem dX5_block_118 : decode cX5_block 118 = .ok (.invokestatic 107, 3) := by decide +kernel
theorem dX5_block_121 : decode cX5_block 121 = .ok (.ireturn, 1) := by decide +kernel
theorem dX5_isLot_0 : decode cX5_isLot 0 = .ok (.iload_n 1, 1) := by decide +kernel
theorem dX5_isLot_1 : decode cX5_isLot 1 = .ok (.iconst 1, 1) := by decide +kernel
theorem dX5_isLot_2 : decode cX5_isLot 2 = .ok (.aload_n 0, 1) := by decide +kernel
theorem dX5_isLot_3 : decode cX5_isLot 3 = .ok (.getfield 81, 3) := by decide +kernel
theorem dX5_isLot_6 : decode cX5_isLot 6 = .ok (.invokestatic 84, 3) := by decide +kernel
theorem dX5_isLot_9 : decode cX5_isLot 9 = .ok (.ireturn, 1) := by decide +kernel
theorem dX5_isOpen_0 : decode cX5_isOpen 0 = .ok (.aload_n 0, 1) := by decide +kernel
theorem dX5_isOpen_1 : decode cX5_isOpen 1 = .ok (.getfield 25, 3) := by decide +kernel
theorem dX5_isOpen_4 : decode cX5_isOpen 4 = .ok (.iload_n 1, 1) := by decide +kernel
theorem dX5_isOpen_5 : decode cX5_isOpen 5 = .ok (.iaload, 1) := by decide +kernel
theorem dX5_isOpen_6 : decode cX5_isOpen 6 = .ok (.ifCond .ne 7, 3) := by decide +kernel
theorem dX5_isOpen_9 : decode cX5_isOpen 9 = .ok (.iconst 1, 1) := by decide +kernel
theorem dX5_isOpen_10 : decode cX5_isOpen 10 = .ok (.goto 4, 3) := by decide +kernel
theorem dX5_isOpen_13 : decode cX5_isOpen 13 = .ok (.iconst 0, 1) := by decide +kernel
theorem dX5_isOpen_14 : decode cX5_isOpen 14 = .ok (.ireturn, 1) := by decide +kernel
theorem dX5_bits_0 : decode cX5_bits 0 = .ok (.iconst 0, 1) := by decide +kernel
theorem dX5_bits_1 : decode cX5_bits 1 = .ok (.istore_n 1, 1) := by decide +kernel
theorem dX5_bits_2 : decode cX5_bits 2 = .ok (.iconst 0, 1) := by decide +kernel
theorem dX5_bits_3 : decode cX5_bits 3 = .ok (.istore_n 2, 1) := by decide +kernel
theorem dX5_bits_4 : decode cX5_bits 4 = .ok (.iload_n 2, 1) := by decide +kernel
theorem dX5_bits_5 : decode cX5_bits 5 = .ok (.bipush 10, 2) := by decide +kernel
theorem dX5_bits_7 : decode cX5_bits 7 = .ok (.if_icmp .ge 17, 3) := by decide +kernel
theorem dX5_bits_10 : decode cX5_bits 10 = .ok (.iload_n 1, 1) := by decide +kernel
theorem dX5_bits_11 : decode cX5_bits 11 = .ok (.iload_n 0, 1) := by decide +kernel
theorem dX5_bits_12 : decode cX5_bits 12 = .ok (.iload_n 2, 1) := by decide +kernel
theorem dX5_bits_13 : decode cX5_bits 13 = .ok (.ishr, 1) := by decide +kernel
theorem dX5_bits_14 : decode cX5_bits 14 = .ok (.iconst 1, 1) := by decide +kernel
theorem dX5_bits_15 : decode cX5_bits 15 = .ok (.iand, 1) := by decide +kernel
theorem dX5_bits_16 : decode cX5_bits 16 = .ok (.iadd, 1) := by decide +kernel
theorem dX5_bits_17 : decode cX5_bits 17 = .ok (.istore_n 1, 1) := by decide +kernel
theorem dX5_bits_18 : decode cX5_bits 18 = .ok (.iinc 2 1, 3) := by decide +kernel
theorem dX5_bits_21 : decode cX5_bits 21 = .ok (.goto (-17), 3) := by decide +kernel
theorem dX5_bits_24 : decode cX5_bits 24 = .ok (.iload_n 1, 1) := by decide +kernel
theorem dX5_bits_25 : decode cX5_bits 25 = .ok (.ireturn, 1) := by decide +kernel
theorem dX5_release_0 : decode cX5_release 0 = .ok (.aload_n 0, 1) := by decide +kernel
theorem dX5_release_1 : decode cX5_release 1 = .ok (.aload_n 0, 1) := by decide +kernel
theorem dX5_release_2 : decode cX5_release 2 = .ok (.iload_n 1, 1) := by decide +kernel
theorem dX5_release_3 : decode cX5_release 3 = .ok (.invokevirtual 100, 3) := by decide +kernel
theorem dX5_release_6 : decode cX5_release 6 = .ok (.ifCond .ne 7, 3) := by decide +kernel
theorem dX5_release_9 : decode cX5_release 9 = .ok (.iconst 1, 1) := by decide +kernel
theorem dX5_release_10 : decode cX5_release 10 = .ok (.goto 18, 3) := by decide +kernel
theorem dX5_release_13 : decode cX5_release 13 = .ok (.iload_n 2, 1) := by decide +kernel
theorem dX5_release_14 : decode cX5_release 14 = .ok (.iconst 0, 1) := by decide +kernel
theorem dX5_release_15 : decode cX5_release 15 = .ok (.bipush 7, 2) := by decide +kernel
theorem dX5_release_17 : decode cX5_release 17 = .ok (.invokestatic 84, 3) := by decide +kernel
theorem dX5_release_20 : decode cX5_release 20 = .ok (.ifCond .ne 7, 3) := by decide +kernel
theorem dX5_release_23 : decode cX5_release 23 = .ok (.iconst 2, 1) := by decide +kernel
theorem dX5_release_24 : decode cX5_release 24 = .ok (.goto 4, 3) := by decide +kernel
theorem dX5_release_27 : decode cX5_release 27 = .ok (.iconst 0, 1) := by decide +kernel
theorem dX5_release_28 : decode cX5_release 28 = .ok (.putfield 77, 3) := by decide +kernel
theorem dX5_release_31 : decode cX5_release 31 = .ok (.aload_n 0, 1) := by decide +kernel
theorem dX5_release_32 : decode cX5_release 32 = .ok (.getfield 77, 3) := by decide +kernel
theorem dX5_release_35 : decode cX5_release 35 = .ok (.ifCond .ne 50, 3) := by decide +kernel
theorem dX5_release_38 : decode cX5_release 38 = .ok (.aload_n 0, 1) := by decide +kernel
theorem dX5_release_39 : decode cX5_release 39 = .ok (.aload_n 0, 1) := by decide +kernel
theorem dX5_release_40 : decode cX5_release 40 = .ok (.iload_n 1, 1) := by decide +kernel
theorem dX5_release_41 : decode cX5_release 41 = .ok (.invokevirtual 104, 3) := by decide +kernel
theorem dX5_release_44 : decode cX5_release 44 = .ok (.ifCond .eq 19, 3) := by decide +kernel
theorem dX5_release_47 : decode cX5_release 47 = .ok (.aload_n 0, 1) := by decide +kernel
theorem dX5_release_48 : decode cX5_release 48 = .ok (.getfield 28, 3) := by decide +kernel
theorem dX5_release_51 : decode cX5_release 51 = .ok (.iload_n 1, 1) := by decide +kernel
theorem dX5_release_52 : decode cX5_release 52 = .ok (.iaload, 1) := by decide +kernel
theorem dX5_release_53 : decode cX5_release 53 = .ok (.aload_n 0, 1) := by decide +kernel
theorem dX5_release_54 : decode cX5_release 54 = .ok (.getfield 44, 3) := by decide +kernel
theorem dX5_release_57 : decode cX5_release 57 = .ok (.iload_n 2, 1) := by decide +kernel
theorem dX5_release_58 : decode cX5_release 58 = .ok (.iaload, 1) := by decide +kernel
theorem dX5_release_59 : decode cX5_release 59 = .ok (.iand, 1) := by decide +kernel
theorem dX5_release_60 : decode cX5_release 60 = .ok (.ifCond .ne 7, 3) := by decide +kernel
theorem dX5_release_63 : decode cX5_release 63 = .ok (.iconst 3, 1) := by decide +kernel
theorem dX5_release_64 : decode cX5_release 64 = .ok (.goto 18, 3) := by decide +kernel
theorem dX5_release_67 : decode cX5_release 67 = .ok (.aload_n 0, 1) := by decide +kernel
theorem dX5_release_68 : decode cX5_release 68 = .ok (.getfield 88, 3) := by decide +kernel
theorem dX5_release_71 : decode cX5_release 71 = .ok (.sipush 400, 3) := by decide +kernel
theorem dX5_release_74 : decode cX5_release 74 = .ok (.if_icmp .ne 7, 3) := by decide +kernel
theorem dX5_release_77 : decode cX5_release 77 = .ok (.iconst 4, 1) := by decide +kernel
theorem dX5_release_78 : decode cX5_release 78 = .ok (.goto 4, 3) := by decide +kernel
theorem dX5_release_81 : decode cX5_release 81 = .ok (.iconst 0, 1) := by decide +kernel
theorem dX5_release_82 : decode cX5_release 82 = .ok (.putfield 77, 3) := by decide +kernel
theorem dX5_release_85 : decode cX5_release 85 = .ok (.aload_n 0, 1) := by decide +kernel
theorem dX5_release_86 : decode cX5_release 86 = .ok (.getfield 77, 3) := by decide +kernel
theorem dX5_release_89 : decode cX5_release 89 = .ok (.ifCond .le 5, 3) := by decide +kernel
theorem dX5_release_92 : decode cX5_release 92 = .ok (.iconst 0, 1) := by decide +kernel
theorem dX5_release_93 : decode cX5_release 93 = .ok (.ireturn, 1) := by decide +kernel
theorem dX5_release_94 : decode cX5_release 94 = .ok (.aload_n 0, 1) := by decide +kernel
theorem dX5_release_95 : decode cX5_release 95 = .ok (.getfield 28, 3) := by decide +kernel
theorem dX5_release_98 : decode cX5_release 98 = .ok (.iload_n 1, 1) := by decide +kernel
theorem dX5_release_99 : decode cX5_release 99 = .ok (.iaload, 1) := by decide +kernel
theorem dX5_release_100 : decode cX5_release 100 = .ok (.aload_n 0, 1) := by decide +kernel
theorem dX5_release_101 : decode cX5_release 101 = .ok (.getfield 44, 3) := by decide +kernel
theorem dX5_release_104 : decode cX5_release 104 = .ok (.iload_n 2, 1) := by decide +kernel
theorem dX5_release_105 : decode cX5_release 105 = .ok (.iaload, 1) := by decide +kernel
theorem dX5_release_106 : decode cX5_release 106 = .ok (.iand, 1) := by decide +kernel
theorem dX5_release_107 : decode cX5_release 107 = .ok (.invokestatic 107, 3) := by decide +kernel
theorem dX5_release_110 : decode cX5_release 110 = .ok (.istore_n 3, 1) := by decide +kernel
theorem dX5_release_111 : decode cX5_release 111 = .ok (.aload_n 0, 1) := by decide +kernel
theorem dX5_release_112 : decode cX5_release 112 = .ok (.getfield 28, 3) := by decide +kernel
theorem dX5_release_115 : decode cX5_release 115 = .ok (.iload_n 1, 1) := by decide +kernel
theorem dX5_release_116 : decode cX5_release 116 = .ok (.dup2, 1) := by decide +kernel
theorem dX5_release_117 : decode cX5_release 117 = .ok (.iaload, 1) := by decide +kernel
theorem dX5_release_118 : decode cX5_release 118 = .ok (.aload_n 0, 1) := by decide +kernel
theorem dX5_release_119 : decode cX5_release 119 = .ok (.getfield 44, 3) := by decide +kernel
theorem dX5_release_122 : decode cX5_release 122 = .ok (.iload_n 2, 1) := by decide +kernel
theorem dX5_release_123 : decode cX5_release 123 = .ok (.iaload, 1) := by decide +kernel
theorem dX5_release_124 : decode cX5_release 124 = .ok (.iconst (-1), 1) := by decide +kernel
theorem dX5_release_125 : decode cX5_release 125 = .ok (.ixor, 1) := by decide +kernel
theorem dX5_release_126 : decode cX5_release 126 = .ok (.iand, 1) := by decide +kernel
theorem dX5_release_127 : decode cX5_release 127 = .ok (.iastore, 1) := by decide +kernel
theorem dX5_release_128 : decode cX5_release 128 = .ok (.aload_n 0, 1) := by decide +kernel
theorem dX5_release_129 : decode cX5_release 129 = .ok (.iload_n 1, 1) := by decide +kernel
theorem dX5_release_130 : decode cX5_release 130 = .ok (.bipush 7, 2) := by decide +kernel
theorem dX5_release_132 : decode cX5_release 132 = .ok (.iload_n 2, 1) := by decide +kernel
theorem dX5_release_133 : decode cX5_release 133 = .ok (.invokevirtual 96, 3) := by decide +kernel
theorem dX5_release_136 : decode cX5_release 136 = .ok (.iload_n 3, 1) := by decide +kernel
theorem dX5_release_137 : decode cX5_release 137 = .ok (.ireturn, 1) := by decide +kernel
theorem dX5_quarantine_0 : decode cX5_quarantine 0 = .ok (.aload_n 0, 1) := by decide +kernel
theorem dX5_quarantine_1 : decode cX5_quarantine 1 = .ok (.aload_n 0, 1) := by decide +kernel
theorem dX5_quarantine_2 : decode cX5_quarantine 2 = .ok (.iload_n 1, 1) := by decide +kernel
theorem dX5_quarantine_3 : decode cX5_quarantine 3 = .ok (.invokevirtual 100, 3) := by decide +kernel
theorem dX5_quarantine_6 : decode cX5_quarantine 6 = .ok (.ifCond .ne 7, 3) := by decide +kernel
theorem dX5_quarantine_9 : decode cX5_quarantine 9 = .ok (.iconst 1, 1) := by decide +kernel
theorem dX5_quarantine_10 : decode cX5_quarantine 10 = .ok (.goto 40, 3) := by decide +kernel
theorem dX5_quarantine_13 : decode cX5_quarantine 13 = .ok (.aload_n 0, 1) := by decide +kernel
theorem dX5_quarantine_14 : decode cX5_quarantine 14 = .ok (.iload_n 1, 1) := by decide +kernel
theorem dX5_quarantine_15 : decode cX5_quarantine 15 = .ok (.invokevirtual 104, 3) := by decide +kernel
theorem dX5_quarantine_18 : decode cX5_quarantine 18 = .ok (.ifCond .eq 13, 3) := by decide +kernel
theorem dX5_quarantine_21 : decode cX5_quarantine 21 = .ok (.aload_n 0, 1) := by decide +kernel
theorem dX5_quarantine_22 : decode cX5_quarantine 22 = .ok (.getfield 31, 3) := by decide +kernel
theorem dX5_quarantine_25 : decode cX5_quarantine 25 = .ok (.iload_n 1, 1) := by decide +kernel
theorem dX5_quarantine_26 : decode cX5_quarantine 26 = .ok (.baload, 1) := by decide +kernel
theorem dX5_quarantine_27 : decode cX5_quarantine 27 = .ok (.iload_n 2, 1) := by decide +kernel
theorem dX5_quarantine_28 : decode cX5_quarantine 28 = .ok (.if_icmp .ne 7, 3) := by decide +kernel
theorem dX5_quarantine_31 : decode cX5_quarantine 31 = .ok (.iconst 2, 1) := by decide +kernel
theorem dX5_quarantine_32 : decode cX5_quarantine 32 = .ok (.goto 18, 3) := by decide +kernel
theorem dX5_quarantine_35 : decode cX5_quarantine 35 = .ok (.aload_n 0, 1) := by decide +kernel
theorem dX5_quarantine_36 : decode cX5_quarantine 36 = .ok (.getfield 88, 3) := by decide +kernel
theorem dX5_quarantine_39 : decode cX5_quarantine 39 = .ok (.sipush 400, 3) := by decide +kernel
theorem dX5_quarantine_42 : decode cX5_quarantine 42 = .ok (.if_icmp .ne 7, 3) := by decide +kernel
theorem dX5_quarantine_45 : decode cX5_quarantine 45 = .ok (.iconst 3, 1) := by decide +kernel
theorem dX5_quarantine_46 : decode cX5_quarantine 46 = .ok (.goto 4, 3) := by decide +kernel
theorem dX5_quarantine_49 : decode cX5_quarantine 49 = .ok (.iconst 0, 1) := by decide +kernel
theorem dX5_quarantine_50 : decode cX5_quarantine 50 = .ok (.putfield 77, 3) := by decide +kernel
theorem dX5_quarantine_53 : decode cX5_quarantine 53 = .ok (.aload_n 0, 1) := by decide +kernel
theorem dX5_quarantine_54 : decode cX5_quarantine 54 = .ok (.getfield 77, 3) := by decide +kernel
theorem dX5_quarantine_57 : decode cX5_quarantine 57 = .ok (.ifCond .le 4, 3) := by decide +kernel
theorem dX5_quarantine_60 : decode cX5_quarantine 60 = .ok (.return_, 1) := by decide +kernel
theorem dX5_quarantine_61 : decode cX5_quarantine 61 = .ok (.aload_n 0, 1) := by decide +kernel
theorem dX5_quarantine_62 : decode cX5_quarantine 62 = .ok (.getfield 31, 3) := by decide +kernel
theorem dX5_quarantine_65 : decode cX5_quarantine 65 = .ok (.iload_n 1, 1) := by decide +kernel
theorem dX5_quarantine_66 : decode cX5_quarantine 66 = .ok (.iload_n 2, 1) := by decide +kernel
theorem dX5_quarantine_67 : decode cX5_quarantine 67 = .ok (.bastore, 1) := by decide +kernel
theorem dX5_quarantine_68 : decode cX5_quarantine 68 = .ok (.aload_n 0, 1) := by decide +kernel
theorem dX5_quarantine_69 : decode cX5_quarantine 69 = .ok (.iload_n 1, 1) := by decide +kernel
theorem dX5_quarantine_70 : decode cX5_quarantine 70 = .ok (.iload_n 2, 1) := by decide +kernel
theorem dX5_quarantine_71 : decode cX5_quarantine 71 = .ok (.ifCond .eq 8, 3) := by decide +kernel
theorem dX5_quarantine_74 : decode cX5_quarantine 74 = .ok (.bipush 8, 2) := by decide +kernel
theorem dX5_quarantine_76 : decode cX5_quarantine 76 = .ok (.goto 5, 3) := by decide +kernel
theorem dX5_quarantine_79 : decode cX5_quarantine 79 = .ok (.bipush 9, 2) := by decide +kernel
theorem dX5_quarantine_81 : decode cX5_quarantine 81 = .ok (.iconst 0, 1) := by decide +kernel
theorem dX5_quarantine_82 : decode cX5_quarantine 82 = .ok (.invokevirtual 96, 3) := by decide +kernel
theorem dX5_quarantine_85 : decode cX5_quarantine 85 = .ok (.return_, 1) := by decide +kernel
theorem dX5_order_0 : decode cX5_order 0 = .ok (.aload_n 0, 1) := by decide +kernel
theorem dX5_order_1 : decode cX5_order 1 = .ok (.iload_n 1, 1) := by decide +kernel
theorem dX5_order_2 : decode cX5_order 2 = .ok (.iconst 0, 1) := by decide +kernel
theorem dX5_order_3 : decode cX5_order 3 = .ok (.bipush 9, 2) := by decide +kernel
theorem dX5_order_5 : decode cX5_order 5 = .ok (.invokestatic 84, 3) := by decide +kernel
theorem dX5_order_8 : decode cX5_order 8 = .ok (.ifCond .eq 17, 3) := by decide +kernel
theorem dX5_order_11 : decode cX5_order 11 = .ok (.iload_n 2, 1) := by decide +kernel
theorem dX5_order_12 : decode cX5_order 12 = .ok (.iconst 0, 1) := by decide +kernel
theorem dX5_order_13 : decode cX5_order 13 = .ok (.bipush 7, 2) := by decide +kernel
theorem dX5_order_15 : decode cX5_order 15 = .ok (.invokestatic 84, 3) := by decide +kernel
theorem dX5_order_18 : decode cX5_order 18 = .ok (.ifCond .eq 7, 3) := by decide +kernel
theorem dX5_order_21 : decode cX5_order 21 = .ok (.iload_n 3, 1) := by decide +kernel
theorem dX5_order_22 : decode cX5_order 22 = .ok (.ifCond .ge 7, 3) := by decide +kernel
theorem dX5_order_25 : decode cX5_order 25 = .ok (.iconst 1, 1) := by decide +kernel
theorem dX5_order_26 : decode cX5_order 26 = .ok (.goto 4, 3) := by decide +kernel
theorem dX5_order_29 : decode cX5_order 29 = .ok (.iconst 0, 1) := by decide +kernel
theorem dX5_order_30 : decode cX5_order 30 = .ok (.putfield 77, 3) := by decide +kernel
theorem dX5_order_33 : decode cX5_order 33 = .ok (.aload_n 0, 1) := by decide +kernel
theorem dX5_order_34 : decode cX5_order 34 = .ok (.getfield 77, 3) := by decide +kernel
theorem dX5_order_37 : decode cX5_order 37 = .ok (.ifCond .le 5, 3) := by decide +kernel
theorem dX5_order_40 : decode cX5_order 40 = .ok (.iconst 0, 1) := by decide +kernel
theorem dX5_order_41 : decode cX5_order 41 = .ok (.ireturn, 1) := by decide +kernel
theorem dX5_order_42 : decode cX5_order 42 = .ok (.iconst 1, 1) := by decide +kernel
theorem dX5_order_43 : decode cX5_order 43 = .ok (.istore 4, 2) := by decide +kernel
theorem dX5_order_45 : decode cX5_order 45 = .ok (.iload 4, 2) := by decide +kernel
theorem dX5_order_47 : decode cX5_order 47 = .ok (.aload_n 0, 1) := by decide +kernel
theorem dX5_order_48 : decode cX5_order 48 = .ok (.getfield 81, 3) := by decide +kernel
theorem dX5_order_51 : decode cX5_order 51 = .ok (.if_icmp .gt 132, 3) := by decide +kernel
theorem dX5_order_54 : decode cX5_order 54 = .ok (.aload_n 0, 1) := by decide +kernel
theorem dX5_order_55 : decode cX5_order 55 = .ok (.getfield 7, 3) := by decide +kernel
theorem dX5_order_58 : decode cX5_order 58 = .ok (.iload 4, 2) := by decide +kernel
theorem dX5_order_60 : decode cX5_order 60 = .ok (.iaload, 1) := by decide +kernel
theorem dX5_order_61 : decode cX5_order 61 = .ok (.iload_n 1, 1) := by decide +kernel
theorem dX5_order_62 : decode cX5_order 62 = .ok (.if_icmp .ne 115, 3) := by decide +kernel
theorem dX5_order_65 : decode cX5_order 65 = .ok (.aload_n 0, 1) := by decide +kernel
theorem dX5_order_66 : decode cX5_order 66 = .ok (.getfield 13, 3) := by decide +kernel
theorem dX5_order_69 : decode cX5_order 69 = .ok (.iload 4, 2) := by decide +kernel
theorem dX5_order_71 : decode cX5_order 71 = .ok (.iaload, 1) := by decide +kernel
theorem dX5_order_72 : decode cX5_order 72 = .ok (.iload_n 2, 1) := by decide +kernel
theorem dX5_order_73 : decode cX5_order 73 = .ok (.if_icmp .ne 104, 3) := by decide +kernel
theorem dX5_order_76 : decode cX5_order 76 = .ok (.aload_n 0, 1) := by decide +kernel
theorem dX5_order_77 : decode cX5_order 77 = .ok (.iload 4, 2) := by decide +kernel
theorem dX5_order_79 : decode cX5_order 79 = .ok (.invokevirtual 111, 3) := by decide +kernel
theorem dX5_order_82 : decode cX5_order 82 = .ok (.ifCond .ne 6, 3) := by decide +kernel
theorem dX5_order_85 : decode cX5_order 85 = .ok (.goto 92, 3) := by decide +kernel
theorem dX5_order_88 : decode cX5_order 88 = .ok (.iconst 0, 1) := by decide +kernel
theorem dX5_order_89 : decode cX5_order 89 = .ok (.istore 5, 2) := by decide +kernel
theorem dX5_order_91 : decode cX5_order 91 = .ok (.iconst 1, 1) := by decide +kernel
theorem dX5_order_92 : decode cX5_order 92 = .ok (.istore 6, 2) := by decide +kernel
theorem dX5_order_94 : decode cX5_order 94 = .ok (.iload 6, 2) := by decide +kernel
theorem dX5_order_96 : decode cX5_order 96 = .ok (.aload_n 0, 1) := by decide +kernel
theorem dX5_order_97 : decode cX5_order 97 = .ok (.getfield 81, 3) := by decide +kernel
theorem dX5_order_100 : decode cX5_order 100 = .ok (.if_icmp .gt 68, 3) := by decide +kernel
theorem dX5_order_103 : decode cX5_order 103 = .ok (.iload 5, 2) := by decide +kernel
theorem dX5_order_105 : decode cX5_order 105 = .ok (.iload 6, 2) := by decide +kernel
theorem dX5_order_107 : decode cX5_order 107 = .ok (.iload 4, 2) := by decide +kernel
theorem dX5_order_109 : decode cX5_order 109 = .ok (.if_icmp .eq 49, 3) := by decide +kernel
theorem dX5_order_112 : decode cX5_order 112 = .ok (.aload_n 0, 1) := by decide +kernel
theorem dX5_order_113 : decode cX5_order 113 = .ok (.getfield 7, 3) := by decide +kernel
theorem dX5_order_116 : decode cX5_order 116 = .ok (.iload 6, 2) := by decide +kernel
theorem dX5_order_118 : decode cX5_order 118 = .ok (.iaload, 1) := by decide +kernel
theorem dX5_order_119 : decode cX5_order 119 = .ok (.iload_n 1, 1) := by decide +kernel
theorem dX5_order_120 : decode cX5_order 120 = .ok (.if_icmp .ne 38, 3) := by decide +kernel
theorem dX5_order_123 : decode cX5_order 123 = .ok (.aload_n 0, 1) := by decide +kernel
theorem dX5_order_124 : decode cX5_order 124 = .ok (.getfield 13, 3) := by decide +kernel
theorem dX5_order_127 : decode cX5_order 127 = .ok (.iload 6, 2) := by decide +kernel
theorem dX5_order_129 : decode cX5_order 129 = .ok (.iaload, 1) := by decide +kernel
theorem dX5_order_130 : decode cX5_order 130 = .ok (.iload_n 2, 1) := by decide +kernel
theorem dX5_order_131 : decode cX5_order 131 = .ok (.if_icmp .ne 27, 3) := by decide +kernel
theorem dX5_order_134 : decode cX5_order 134 = .ok (.aload_n 0, 1) := by decide +kernel
theorem dX5_order_135 : decode cX5_order 135 = .ok (.iload 6, 2) := by decide +kernel
theorem dX5_order_137 : decode cX5_order 137 = .ok (.invokevirtual 111, 3) := by decide +kernel
theorem dX5_order_140 : decode cX5_order 140 = .ok (.ifCond .eq 18, 3) := by decide +kernel
theorem dX5_order_143 : decode cX5_order 143 = .ok (.aload_n 0, 1) := by decide +kernel
theorem dX5_order_144 : decode cX5_order 144 = .ok (.iload 6, 2) := by decide +kernel
theorem dX5_order_146 : decode cX5_order 146 = .ok (.iload 4, 2) := by decide +kernel
theorem dX5_order_148 : decode cX5_order 148 = .ok (.invokevirtual 114, 3) := by decide +kernel
theorem dX5_order_151 : decode cX5_order 151 = .ok (.ifCond .eq 7, 3) := by decide +kernel
theorem dX5_order_154 : decode cX5_order 154 = .ok (.iconst 1, 1) := by decide +kernel
theorem dX5_order_155 : decode cX5_order 155 = .ok (.goto 4, 3) := by decide +kernel
theorem dX5_order_158 : decode cX5_order 158 = .ok (.iconst 0, 1) := by decide +kernel
theorem dX5_order_159 : decode cX5_order 159 = .ok (.iadd, 1) := by decide +kernel
theorem dX5_order_160 : decode cX5_order 160 = .ok (.istore 5, 2) := by decide +kernel
theorem dX5_order_162 : decode cX5_order 162 = .ok (.iinc 6 1, 3) := by decide +kernel
theorem dX5_order_165 : decode cX5_order 165 = .ok (.goto (-71), 3) := by decide +kernel
theorem dX5_order_168 : decode cX5_order 168 = .ok (.iload 5, 2) := by decide +kernel
theorem dX5_order_170 : decode cX5_order 170 = .ok (.iload_n 3, 1) := by decide +kernel
theorem dX5_order_171 : decode cX5_order 171 = .ok (.if_icmp .ne 6, 3) := by decide +kernel
theorem dX5_order_174 : decode cX5_order 174 = .ok (.iload 4, 2) := by decide +kernel
theorem dX5_order_176 : decode cX5_order 176 = .ok (.ireturn, 1) := by decide +kernel
theorem dX5_order_177 : decode cX5_order 177 = .ok (.iinc 4 1, 3) := by decide +kernel
theorem dX5_order_180 : decode cX5_order 180 = .ok (.goto (-135), 3) := by decide +kernel
theorem dX5_order_183 : decode cX5_order 183 = .ok (.iconst (-1), 1) := by decide +kernel
theorem dX5_order_184 : decode cX5_order 184 = .ok (.ireturn, 1) := by decide +kernel
theorem dX5_mayBeTaken_0 : decode cX5_mayBeTaken 0 = .ok (.aload_n 0, 1) := by decide +kernel
theorem dX5_mayBeTaken_1 : decode cX5_mayBeTaken 1 = .ok (.iload_n 1, 1) := by decide +kernel
theorem dX5_mayBeTaken_2 : decode cX5_mayBeTaken 2 = .ok (.invokevirtual 104, 3) := by decide +kernel
theorem dX5_mayBeTaken_5 : decode cX5_mayBeTaken 5 = .ok (.ifCond .eq 25, 3) := by decide +kernel
theorem dX5_mayBeTaken_8 : decode cX5_mayBeTaken 8 = .ok (.aload_n 0, 1) := by decide +kernel
theorem dX5_mayBeTaken_9 : decode cX5_mayBeTaken 9 = .ok (.getfield 28, 3) := by decide +kernel
theorem dX5_mayBeTaken_12 : decode cX5_mayBeTaken 12 = .ok (.iload_n 1, 1) := by decide +kernel
theorem dX5_mayBeTaken_13 : decode cX5_mayBeTaken 13 = .ok (.iaload, 1) := by decide +kernel
theorem dX5_mayBeTaken_14 : decode cX5_mayBeTaken 14 = .ok (.ifCond .ne 16, 3) := by decide +kernel
theorem dX5_mayBeTaken_17 : decode cX5_mayBeTaken 17 = .ok (.aload_n 0, 1) := by decide +kernel
theorem dX5_mayBeTaken_18 : decode cX5_mayBeTaken 18 = .ok (.getfield 31, 3) := by decide +kernel
theorem dX5_mayBeTaken_21 : decode cX5_mayBeTaken 21 = .ok (.iload_n 1, 1) := by decide +kernel
theorem dX5_mayBeTaken_22 : decode cX5_mayBeTaken 22 = .ok (.baload, 1) := by decide +kernel
theorem dX5_mayBeTaken_23 : decode cX5_mayBeTaken 23 = .ok (.ifCond .ne 7, 3) := by decide +kernel
theorem dX5_mayBeTaken_26 : decode cX5_mayBeTaken 26 = .ok (.iconst 1, 1) := by decide +kernel
theorem dX5_mayBeTaken_27 : decode cX5_mayBeTaken 27 = .ok (.goto 4, 3) := by decide +kernel
theorem dX5_mayBeTaken_30 : decode cX5_mayBeTaken 30 = .ok (.iconst 0, 1) := by decide +kernel
theorem dX5_mayBeTaken_31 : decode cX5_mayBeTaken 31 = .ok (.ireturn, 1) := by decide +kernel
theorem dX5_isBefore_0 : decode cX5_isBefore 0 = .ok (.aload_n 0, 1) := by decide +kernel
theorem dX5_isBefore_1 : decode cX5_isBefore 1 = .ok (.getfield 35, 3) := by decide +kernel
theorem dX5_isBefore_4 : decode cX5_isBefore 4 = .ok (.aload_n 0, 1) := by decide +kernel
theorem dX5_isBefore_5 : decode cX5_isBefore 5 = .ok (.getfield 13, 3) := by decide +kernel
theorem dX5_isBefore_8 : decode cX5_isBefore 8 = .ok (.iload_n 1, 1) := by decide +kernel
theorem dX5_isBefore_9 : decode cX5_isBefore 9 = .ok (.iaload, 1) := by decide +kernel
theorem dX5_isBefore_10 : decode cX5_isBefore 10 = .ok (.iaload, 1) := by decide +kernel
theorem dX5_isBefore_11 : decode cX5_isBefore 11 = .ok (.istore_n 3, 1) := by decide +kernel
theorem dX5_isBefore_12 : decode cX5_isBefore 12 = .ok (.iload_n 3, 1) := by decide +kernel
theorem dX5_isBefore_13 : decode cX5_isBefore 13 = .ok (.iconst 2, 1) := by decide +kernel
theorem dX5_isBefore_14 : decode cX5_isBefore 14 = .ok (.if_icmp .ne 52, 3) := by decide +kernel
theorem dX5_isBefore_17 : decode cX5_isBefore 17 = .ok (.aload_n 0, 1) := by decide +kernel
theorem dX5_isBefore_18 : decode cX5_isBefore 18 = .ok (.getfield 19, 3) := by decide +kernel
theorem dX5_isBefore_21 : decode cX5_isBefore 21 = .ok (.iload_n 1, 1) := by decide +kernel
theorem dX5_isBefore_22 : decode cX5_isBefore 22 = .ok (.iaload, 1) := by decide +kernel
theorem dX5_isBefore_23 : decode cX5_isBefore 23 = .ok (.aload_n 0, 1) := by decide +kernel
theorem dX5_isBefore_24 : decode cX5_isBefore 24 = .ok (.getfield 19, 3) := by decide +kernel
theorem dX5_isBefore_27 : decode cX5_isBefore 27 = .ok (.iload_n 2, 1) := by decide +kernel
theorem dX5_isBefore_28 : decode cX5_isBefore 28 = .ok (.iaload, 1) := by decide +kernel
theorem dX5_isBefore_29 : decode cX5_isBefore 29 = .ok (.if_icmp .eq 26, 3) := by decide +kernel
theorem dX5_isBefore_32 : decode cX5_isBefore 32 = .ok (.aload_n 0, 1) := by decide +kernel
theorem dX5_isBefore_33 : decode cX5_isBefore 33 = .ok (.getfield 19, 3) := by decide +kernel
theorem dX5_isBefore_36 : decode cX5_isBefore 36 = .ok (.iload_n 1, 1) := by decide +kernel
theorem dX5_isBefore_37 : decode cX5_isBefore 37 = .ok (.iaload, 1) := by decide +kernel
theorem dX5_isBefore_38 : decode cX5_isBefore 38 = .ok (.aload_n 0, 1) := by decide +kernel
theorem dX5_isBefore_39 : decode cX5_isBefore 39 = .ok (.getfield 19, 3) := by decide +kernel
theorem dX5_isBefore_42 : decode cX5_isBefore 42 = .ok (.iload_n 2, 1) := by decide +kernel
theorem dX5_isBefore_43 : decode cX5_isBefore 43 = .ok (.iaload, 1) := by decide +kernel
theorem dX5_isBefore_44 : decode cX5_isBefore 44 = .ok (.if_icmp .le 7, 3) := by decide +kernel
theorem dX5_isBefore_47 : decode cX5_isBefore 47 = .ok (.iconst 1, 1) := by decide +kernel
theorem dX5_isBefore_48 : decode cX5_isBefore 48 = .ok (.goto 17, 3) := by decide +kernel
theorem dX5_isBefore_51 : decode cX5_isBefore 51 = .ok (.iconst 0, 1) := by decide +kernel
theorem dX5_isBefore_52 : decode cX5_isBefore 52 = .ok (.goto 13, 3) := by decide +kernel
theorem dX5_isBefore_55 : decode cX5_isBefore 55 = .ok (.iload_n 1, 1) := by decide +kernel
theorem dX5_isBefore_56 : decode cX5_isBefore 56 = .ok (.iload_n 2, 1) := by decide +kernel
theorem dX5_isBefore_57 : decode cX5_isBefore 57 = .ok (.if_icmp .le 7, 3) := by decide +kernel
theorem dX5_isBefore_60 : decode cX5_isBefore 60 = .ok (.iconst 1, 1) := by decide +kernel
theorem dX5_isBefore_61 : decode cX5_isBefore 61 = .ok (.goto 4, 3) := by decide +kernel
theorem dX5_isBefore_64 : decode cX5_isBefore 64 = .ok (.iconst 0, 1) := by decide +kernel
theorem dX5_isBefore_65 : decode cX5_isBefore 65 = .ok (.ireturn, 1) := by decide +kernel
theorem dX5_isBefore_66 : decode cX5_isBefore 66 = .ok (.iload_n 3, 1) := by decide +kernel
theorem dX5_isBefore_67 : decode cX5_isBefore 67 = .ok (.ifCond .ne 39, 3) := by decide +kernel
theorem dX5_isBefore_70 : decode cX5_isBefore 70 = .ok (.aload_n 0, 1) := by decide +kernel
theorem dX5_isBefore_71 : decode cX5_isBefore 71 = .ok (.getfield 16, 3) := by decide +kernel
theorem dX5_isBefore_74 : decode cX5_isBefore 74 = .ok (.iload_n 1, 1) := by decide +kernel
theorem dX5_isBefore_75 : decode cX5_isBefore 75 = .ok (.iaload, 1) := by decide +kernel
theorem dX5_isBefore_76 : decode cX5_isBefore 76 = .ok (.aload_n 0, 1) := by decide +kernel
theorem dX5_isBefore_77 : decode cX5_isBefore 77 = .ok (.getfield 16, 3) := by decide +kernel
theorem dX5_isBefore_80 : decode cX5_isBefore 80 = .ok (.iload_n 2, 1) := by decide +kernel
theorem dX5_isBefore_81 : decode cX5_isBefore 81 = .ok (.iaload, 1) := by decide +kernel
theorem dX5_isBefore_82 : decode cX5_isBefore 82 = .ok (.if_icmp .eq 24, 3) := by decide +kernel
theorem dX5_isBefore_85 : decode cX5_isBefore 85 = .ok (.aload_n 0, 1) := by decide +kernel
theorem dX5_isBefore_86 : decode cX5_isBefore 86 = .ok (.getfield 16, 3) := by decide +kernel
theorem dX5_isBefore_89 : decode cX5_isBefore 89 = .ok (.iload_n 1, 1) := by decide +kernel
theorem dX5_isBefore_90 : decode cX5_isBefore 90 = .ok (.iaload, 1) := by decide +kernel
theorem dX5_isBefore_91 : decode cX5_isBefore 91 = .ok (.aload_n 0, 1) := by decide +kernel
theorem dX5_isBefore_92 : decode cX5_isBefore 92 = .ok (.getfield 16, 3) := by decide +kernel
theorem dX5_isBefore_95 : decode cX5_isBefore 95 = .ok (.iload_n 2, 1) := by decide +kernel
theorem dX5_isBefore_96 : decode cX5_isBefore 96 = .ok (.iaload, 1) := by decide +kernel
theorem dX5_isBefore_97 : decode cX5_isBefore 97 = .ok (.if_icmp .ge 7, 3) := by decide +kernel
theorem dX5_isBefore_100 : decode cX5_isBefore 100 = .ok (.iconst 1, 1) := by decide +kernel
theorem dX5_isBefore_101 : decode cX5_isBefore 101 = .ok (.goto 4, 3) := by decide +kernel
theorem dX5_isBefore_104 : decode cX5_isBefore 104 = .ok (.iconst 0, 1) := by decide +kernel
theorem dX5_isBefore_105 : decode cX5_isBefore 105 = .ok (.ireturn, 1) := by decide +kernel
theorem dX5_isBefore_106 : decode cX5_isBefore 106 = .ok (.aload_n 0, 1) := by decide +kernel
theorem dX5_isBefore_107 : decode cX5_isBefore 107 = .ok (.getfield 19, 3) := by decide +kernel
theorem dX5_isBefore_110 : decode cX5_isBefore 110 = .ok (.iload_n 1, 1) := by decide +kernel
theorem dX5_isBefore_111 : decode cX5_isBefore 111 = .ok (.iaload, 1) := by decide +kernel
theorem dX5_isBefore_112 : decode cX5_isBefore 112 = .ok (.aload_n 0, 1) := by decide +kernel
theorem dX5_isBefore_113 : decode cX5_isBefore 113 = .ok (.getfield 19, 3) := by decide +kernel
theorem dX5_isBefore_116 : decode cX5_isBefore 116 = .ok (.iload_n 2, 1) := by decide +kernel
theorem dX5_isBefore_117 : decode cX5_isBefore 117 = .ok (.iaload, 1) := by decide +kernel
theorem dX5_isBefore_118 : decode cX5_isBefore 118 = .ok (.if_icmp .eq 26, 3) := by decide +kernel
theorem dX5_isBefore_121 : decode cX5_isBefore 121 = .ok (.aload_n 0, 1) := by decide +kernel
theorem dX5_isBefore_122 : decode cX5_isBefore 122 = .ok (.getfield 19, 3) := by decide +kernel
theorem dX5_isBefore_125 : decode cX5_isBefore 125 = .ok (.iload_n 1, 1) := by decide +kernel
theorem dX5_isBefore_126 : decode cX5_isBefore 126 = .ok (.iaload, 1) := by decide +kernel
theorem dX5_isBefore_127 : decode cX5_isBefore 127 = .ok (.aload_n 0, 1) := by decide +kernel
theorem dX5_isBefore_128 : decode cX5_isBefore 128 = .ok (.getfield 19, 3) := by decide +kernel
theorem dX5_isBefore_131 : decode cX5_isBefore 131 = .ok (.iload_n 2, 1) := by decide +kernel
theorem dX5_isBefore_132 : decode cX5_isBefore 132 = .ok (.iaload, 1) := by decide +kernel
theorem dX5_isBefore_133 : decode cX5_isBefore 133 = .ok (.if_icmp .ge 7, 3) := by decide +kernel
theorem dX5_isBefore_136 : decode cX5_isBefore 136 = .ok (.iconst 1, 1) := by decide +kernel
theorem dX5_isBefore_137 : decode cX5_isBefore 137 = .ok (.goto 17, 3) := by decide +kernel
theorem dX5_isBefore_140 : decode cX5_isBefore 140 = .ok (.iconst 0, 1) := by decide +kernel
theorem dX5_isBefore_141 : decode cX5_isBefore 141 = .ok (.goto 13, 3) := by decide +kernel
theorem dX5_isBefore_144 : decode cX5_isBefore 144 = .ok (.iload_n 1, 1) := by decide +kernel
theorem dX5_isBefore_145 : decode cX5_isBefore 145 = .ok (.iload_n 2, 1) := by decide +kernel
theorem dX5_isBefore_146 : decode cX5_isBefore 146 = .ok (.if_icmp .ge 7, 3) := by decide +kernel
theorem dX5_isBefore_149 : decode cX5_isBefore 149 = .ok (.iconst 1, 1) := by decide +kernel
theorem dX5_isBefore_150 : decode cX5_isBefore 150 = .ok (.goto 4, 3) := by decide +kernel
theorem dX5_isBefore_153 : decode cX5_isBefore 153 = .ok (.iconst 0, 1) := by decide +kernel
theorem dX5_isBefore_154 : decode cX5_isBefore 154 = .ok (.ireturn, 1) := by decide +kernel
theorem dX5_allowed_0 : decode cX5_allowed 0 = .ok (.aload_n 0, 1) := by decide +kernel
theorem dX5_allowed_1 : decode cX5_allowed 1 = .ok (.aload_n 0, 1) := by decide +kernel
theorem dX5_allowed_2 : decode cX5_allowed 2 = .ok (.iload_n 1, 1) := by decide +kernel
theorem dX5_allowed_3 : decode cX5_allowed 3 = .ok (.invokevirtual 100, 3) := by decide +kernel
theorem dX5_allowed_6 : decode cX5_allowed 6 = .ok (.ifCond .ne 7, 3) := by decide +kernel
theorem dX5_allowed_9 : decode cX5_allowed 9 = .ok (.iconst 1, 1) := by decide +kernel
theorem dX5_allowed_10 : decode cX5_allowed 10 = .ok (.goto 28, 3) := by decide +kernel
theorem dX5_allowed_13 : decode cX5_allowed 13 = .ok (.iload_n 2, 1) := by decide +kernel
theorem dX5_allowed_14 : decode cX5_allowed 14 = .ok (.iconst 0, 1) := by decide +kernel
theorem dX5_allowed_15 : decode cX5_allowed 15 = .ok (.bipush 7, 2) := by decide +kernel
theorem dX5_allowed_17 : decode cX5_allowed 17 = .ok (.invokestatic 84, 3) := by decide +kernel
theorem dX5_allowed_20 : decode cX5_allowed 20 = .ok (.ifCond .eq 13, 3) := by decide +kernel
theorem dX5_allowed_23 : decode cX5_allowed 23 = .ok (.iload_n 3, 1) := by decide +kernel
theorem dX5_allowed_24 : decode cX5_allowed 24 = .ok (.iconst 0, 1) := by decide +kernel
theorem dX5_allowed_25 : decode cX5_allowed 25 = .ok (.ldc 91, 2) := by decide +kernel
theorem dX5_allowed_27 : decode cX5_allowed 27 = .ok (.invokestatic 84, 3) := by decide +kernel
theorem dX5_allowed_30 : decode cX5_allowed 30 = .ok (.ifCond .ne 7, 3) := by decide +kernel
theorem dX5_allowed_33 : decode cX5_allowed 33 = .ok (.iconst 2, 1) := by decide +kernel
theorem dX5_allowed_34 : decode cX5_allowed 34 = .ok (.goto 4, 3) := by decide +kernel
theorem dX5_allowed_37 : decode cX5_allowed 37 = .ok (.iconst 0, 1) := by decide +kernel
theorem dX5_allowed_38 : decode cX5_allowed 38 = .ok (.putfield 77, 3) := by decide +kernel
theorem dX5_allowed_41 : decode cX5_allowed 41 = .ok (.aload_n 0, 1) := by decide +kernel
theorem dX5_allowed_42 : decode cX5_allowed 42 = .ok (.getfield 77, 3) := by decide +kernel
theorem dX5_allowed_45 : decode cX5_allowed 45 = .ok (.ifCond .ne 17, 3) := by decide +kernel
theorem dX5_allowed_48 : decode cX5_allowed 48 = .ok (.aload_n 0, 1) := by decide +kernel
theorem dX5_allowed_49 : decode cX5_allowed 49 = .ok (.iload_n 1, 1) := by decide +kernel
theorem dX5_allowed_50 : decode cX5_allowed 50 = .ok (.iload_n 2, 1) := by decide +kernel
theorem dX5_allowed_51 : decode cX5_allowed 51 = .ok (.iload_n 3, 1) := by decide +kernel
theorem dX5_allowed_52 : decode cX5_allowed 52 = .ok (.invokevirtual 118, 3) := by decide +kernel
theorem dX5_allowed_55 : decode cX5_allowed 55 = .ok (.ifCond .eq 7, 3) := by decide +kernel
theorem dX5_allowed_58 : decode cX5_allowed 58 = .ok (.iconst 1, 1) := by decide +kernel
theorem dX5_allowed_59 : decode cX5_allowed 59 = .ok (.goto 4, 3) := by decide +kernel
theorem dX5_allowed_62 : decode cX5_allowed 62 = .ok (.iconst 0, 1) := by decide +kernel
theorem dX5_allowed_63 : decode cX5_allowed 63 = .ok (.ireturn, 1) := by decide +kernel
theorem dX5_isAllowed_0 : decode cX5_isAllowed 0 = .ok (.aload_n 0, 1) := by decide +kernel
theorem dX5_isAllowed_1 : decode cX5_isAllowed 1 = .ok (.iload_n 1, 1) := by decide +kernel
theorem dX5_isAllowed_2 : decode cX5_isAllowed 2 = .ok (.invokevirtual 111, 3) := by decide +kernel
theorem dX5_isAllowed_5 : decode cX5_isAllowed 5 = .ok (.ifCond .eq 46, 3) := by decide +kernel
theorem dX5_isAllowed_8 : decode cX5_isAllowed 8 = .ok (.iload_n 3, 1) := by decide +kernel
theorem dX5_isAllowed_9 : decode cX5_isAllowed 9 = .ok (.aload_n 0, 1) := by decide +kernel
theorem dX5_isAllowed_10 : decode cX5_isAllowed 10 = .ok (.getfield 19, 3) := by decide +kernel
theorem dX5_isAllowed_13 : decode cX5_isAllowed 13 = .ok (.iload_n 1, 1) := by decide +kernel
theorem dX5_isAllowed_14 : decode cX5_isAllowed 14 = .ok (.iaload, 1) := by decide +kernel
theorem dX5_isAllowed_15 : decode cX5_isAllowed 15 = .ok (.if_icmp .lt 36, 3) := by decide +kernel
theorem dX5_isAllowed_18 : decode cX5_isAllowed 18 = .ok (.iload_n 3, 1) := by decide +kernel
theorem dX5_isAllowed_19 : decode cX5_isAllowed 19 = .ok (.aload_n 0, 1) := by decide +kernel
theorem dX5_isAllowed_20 : decode cX5_isAllowed 20 = .ok (.getfield 16, 3) := by decide +kernel
theorem dX5_isAllowed_23 : decode cX5_isAllowed 23 = .ok (.iload_n 1, 1) := by decide +kernel
theorem dX5_isAllowed_24 : decode cX5_isAllowed 24 = .ok (.iaload, 1) := by decide +kernel
theorem dX5_isAllowed_25 : decode cX5_isAllowed 25 = .ok (.if_icmp .gt 26, 3) := by decide +kernel
theorem dX5_isAllowed_28 : decode cX5_isAllowed 28 = .ok (.aload_n 0, 1) := by decide +kernel
theorem dX5_isAllowed_29 : decode cX5_isAllowed 29 = .ok (.getfield 16, 3) := by decide +kernel
theorem dX5_isAllowed_32 : decode cX5_isAllowed 32 = .ok (.iload_n 1, 1) := by decide +kernel
theorem dX5_isAllowed_33 : decode cX5_isAllowed 33 = .ok (.iaload, 1) := by decide +kernel
theorem dX5_isAllowed_34 : decode cX5_isAllowed 34 = .ok (.iload_n 3, 1) := by decide +kernel
theorem dX5_isAllowed_35 : decode cX5_isAllowed 35 = .ok (.isub, 1) := by decide +kernel
theorem dX5_isAllowed_36 : decode cX5_isAllowed 36 = .ok (.iconst 1, 1) := by decide +kernel
theorem dX5_isAllowed_37 : decode cX5_isAllowed 37 = .ok (.iadd, 1) := by decide +kernel
theorem dX5_isAllowed_38 : decode cX5_isAllowed 38 = .ok (.aload_n 0, 1) := by decide +kernel
theorem dX5_isAllowed_39 : decode cX5_isAllowed 39 = .ok (.getfield 41, 3) := by decide +kernel
theorem dX5_isAllowed_42 : decode cX5_isAllowed 42 = .ok (.iload_n 2, 1) := by decide +kernel
theorem dX5_isAllowed_43 : decode cX5_isAllowed 43 = .ok (.iaload, 1) := by decide +kernel
theorem dX5_isAllowed_44 : decode cX5_isAllowed 44 = .ok (.if_icmp .lt 7, 3) := by decide +kernel
theorem dX5_isAllowed_47 : decode cX5_isAllowed 47 = .ok (.iconst 1, 1) := by decide +kernel
theorem dX5_isAllowed_48 : decode cX5_isAllowed 48 = .ok (.goto 4, 3) := by decide +kernel
theorem dX5_isAllowed_51 : decode cX5_isAllowed 51 = .ok (.iconst 0, 1) := by decide +kernel
theorem dX5_isAllowed_52 : decode cX5_isAllowed 52 = .ok (.ireturn, 1) := by decide +kernel
theorem dX5_split_0 : decode cX5_split 0 = .ok (.aload_n 0, 1) := by decide +kernel
theorem dX5_split_1 : decode cX5_split 1 = .ok (.aload_n 0, 1) := by decide +kernel
theorem dX5_split_2 : decode cX5_split 2 = .ok (.iload_n 1, 1) := by decide +kernel
theorem dX5_split_3 : decode cX5_split 3 = .ok (.invokevirtual 100, 3) := by decide +kernel
theorem dX5_split_6 : decode cX5_split 6 = .ok (.ifCond .ne 7, 3) := by decide +kernel
theorem dX5_split_9 : decode cX5_split 9 = .ok (.iconst 1, 1) := by decide +kernel
theorem dX5_split_10 : decode cX5_split 10 = .ok (.goto 39, 3) := by decide +kernel
theorem dX5_split_13 : decode cX5_split 13 = .ok (.aload_n 0, 1) := by decide +kernel
theorem dX5_split_14 : decode cX5_split 14 = .ok (.iload_n 1, 1) := by decide +kernel
theorem dX5_split_15 : decode cX5_split 15 = .ok (.invokevirtual 104, 3) := by decide +kernel
theorem dX5_split_18 : decode cX5_split 18 = .ok (.ifCond .ne 7, 3) := by decide +kernel
theorem dX5_split_21 : decode cX5_split 21 = .ok (.iconst 2, 1) := by decide +kernel
theorem dX5_split_22 : decode cX5_split 22 = .ok (.goto 27, 3) := by decide +kernel
theorem dX5_split_25 : decode cX5_split 25 = .ok (.aload_n 0, 1) := by decide +kernel
theorem dX5_split_26 : decode cX5_split 26 = .ok (.getfield 81, 3) := by decide +kernel
theorem dX5_split_29 : decode cX5_split 29 = .ok (.bipush 40, 2) := by decide +kernel
theorem dX5_split_31 : decode cX5_split 31 = .ok (.if_icmp .eq 13, 3) := by decide +kernel
theorem dX5_split_34 : decode cX5_split 34 = .ok (.aload_n 0, 1) := by decide +kernel
theorem dX5_split_35 : decode cX5_split 35 = .ok (.getfield 88, 3) := by decide +kernel
theorem dX5_split_38 : decode cX5_split 38 = .ok (.sipush 398, 3) := by decide +kernel
theorem dX5_split_41 : decode cX5_split 41 = .ok (.if_icmp .le 7, 3) := by decide +kernel
theorem dX5_split_44 : decode cX5_split 44 = .ok (.iconst 3, 1) := by decide +kernel
theorem dX5_split_45 : decode cX5_split 45 = .ok (.goto 4, 3) := by decide +kernel
theorem dX5_split_48 : decode cX5_split 48 = .ok (.iconst 0, 1) := by decide +kernel
theorem dX5_split_49 : decode cX5_split 49 = .ok (.putfield 77, 3) := by decide +kernel
theorem dX5_split_52 : decode cX5_split 52 = .ok (.aload_n 0, 1) := by decide +kernel
theorem dX5_split_53 : decode cX5_split 53 = .ok (.getfield 77, 3) := by decide +kernel
theorem dX5_split_56 : decode cX5_split 56 = .ok (.ifCond .le 5, 3) := by decide +kernel
theorem dX5_split_59 : decode cX5_split 59 = .ok (.iconst 0, 1) := by decide +kernel
theorem dX5_split_60 : decode cX5_split 60 = .ok (.ireturn, 1) := by decide +kernel
theorem dX5_split_61 : decode cX5_split 61 = .ok (.aload_n 0, 1) := by decide +kernel
theorem dX5_split_62 : decode cX5_split 62 = .ok (.aload_n 0, 1) := by decide +kernel
theorem dX5_split_63 : decode cX5_split 63 = .ok (.getfield 7, 3) := by decide +kernel
theorem dX5_split_66 : decode cX5_split 66 = .ok (.iload_n 1, 1) := by decide +kernel
theorem dX5_split_67 : decode cX5_split 67 = .ok (.iaload, 1) := by decide +kernel
theorem dX5_split_68 : decode cX5_split 68 = .ok (.aload_n 0, 1) := by decide +kernel
theorem dX5_split_69 : decode cX5_split 69 = .ok (.getfield 13, 3) := by decide +kernel
theorem dX5_split_72 : decode cX5_split 72 = .ok (.iload_n 1, 1) := by decide +kernel
theorem dX5_split_73 : decode cX5_split 73 = .ok (.iaload, 1) := by decide +kernel
theorem dX5_split_74 : decode cX5_split 74 = .ok (.aload_n 0, 1) := by decide +kernel
theorem dX5_split_75 : decode cX5_split 75 = .ok (.getfield 16, 3) := by decide +kernel
theorem dX5_split_78 : decode cX5_split 78 = .ok (.iload_n 1, 1) := by decide +kernel
theorem dX5_split_79 : decode cX5_split 79 = .ok (.iaload, 1) := by decide +kernel
theorem dX5_split_80 : decode cX5_split 80 = .ok (.aload_n 0, 1) := by decide +kernel
theorem dX5_split_81 : decode cX5_split 81 = .ok (.getfield 19, 3) := by decide +kernel
theorem dX5_split_84 : decode cX5_split 84 = .ok (.iload_n 1, 1) := by decide +kernel
theorem dX5_split_85 : decode cX5_split 85 = .ok (.iaload, 1) := by decide +kernel
theorem dX5_split_86 : decode cX5_split 86 = .ok (.iload_n 1, 1) := by decide +kernel
theorem dX5_split_87 : decode cX5_split 87 = .ok (.invokevirtual 92, 3) := by decide +kernel
theorem dX5_split_90 : decode cX5_split 90 = .ok (.istore_n 2, 1) := by decide +kernel
theorem dX5_split_91 : decode cX5_split 91 = .ok (.aload_n 0, 1) := by decide +kernel
theorem dX5_split_92 : decode cX5_split 92 = .ok (.getfield 28, 3) := by decide +kernel
theorem dX5_split_95 : decode cX5_split 95 = .ok (.iload_n 2, 1) := by decide +kernel
theorem dX5_split_96 : decode cX5_split 96 = .ok (.aload_n 0, 1) := by decide +kernel
theorem dX5_split_97 : decode cX5_split 97 = .ok (.getfield 28, 3) := by decide +kernel
theorem dX5_split_100 : decode cX5_split 100 = .ok (.iload_n 1, 1) := by decide +kernel
theorem dX5_split_101 : decode cX5_split 101 = .ok (.iaload, 1) := by decide +kernel
theorem dX5_split_102 : decode cX5_split 102 = .ok (.iastore, 1) := by decide +kernel
theorem dX5_split_103 : decode cX5_split 103 = .ok (.aload_n 0, 1) := by decide +kernel
theorem dX5_split_104 : decode cX5_split 104 = .ok (.getfield 31, 3) := by decide +kernel
theorem dX5_split_107 : decode cX5_split 107 = .ok (.iload_n 2, 1) := by decide +kernel
theorem dX5_split_108 : decode cX5_split 108 = .ok (.aload_n 0, 1) := by decide +kernel
theorem dX5_split_109 : decode cX5_split 109 = .ok (.getfield 31, 3) := by decide +kernel
theorem dX5_split_112 : decode cX5_split 112 = .ok (.iload_n 1, 1) := by decide +kernel
theorem dX5_split_113 : decode cX5_split 113 = .ok (.baload, 1) := by decide +kernel
theorem dX5_split_114 : decode cX5_split 114 = .ok (.bastore, 1) := by decide +kernel
theorem dX5_split_115 : decode cX5_split 115 = .ok (.aload_n 0, 1) := by decide +kernel
theorem dX5_split_116 : decode cX5_split 116 = .ok (.iload_n 1, 1) := by decide +kernel
theorem dX5_split_117 : decode cX5_split 117 = .ok (.iconst 3, 1) := by decide +kernel
theorem dX5_split_118 : decode cX5_split 118 = .ok (.iload_n 2, 1) := by decide +kernel
theorem dX5_split_119 : decode cX5_split 119 = .ok (.invokevirtual 96, 3) := by decide +kernel
theorem dX5_split_122 : decode cX5_split 122 = .ok (.aload_n 0, 1) := by decide +kernel
theorem dX5_split_123 : decode cX5_split 123 = .ok (.iload_n 2, 1) := by decide +kernel
theorem dX5_split_124 : decode cX5_split 124 = .ok (.iconst 2, 1) := by decide +kernel
theorem dX5_split_125 : decode cX5_split 125 = .ok (.iload_n 1, 1) := by decide +kernel
theorem dX5_split_126 : decode cX5_split 126 = .ok (.invokevirtual 96, 3) := by decide +kernel
theorem dX5_split_129 : decode cX5_split 129 = .ok (.iload_n 2, 1) := by decide +kernel
theorem dX5_split_130 : decode cX5_split 130 = .ok (.ireturn, 1) := by decide +kernel
theorem dX5_join_0 : decode cX5_join 0 = .ok (.aload_n 0, 1) := by decide +kernel
theorem dX5_join_1 : decode cX5_join 1 = .ok (.aload_n 0, 1) := by decide +kernel
theorem dX5_join_2 : decode cX5_join 2 = .ok (.iload_n 1, 1) := by decide +kernel
theorem dX5_join_3 : decode cX5_join 3 = .ok (.invokevirtual 100, 3) := by decide +kernel
theorem dX5_join_6 : decode cX5_join 6 = .ok (.ifCond .eq 11, 3) := by decide +kernel
theorem dX5_join_9 : decode cX5_join 9 = .ok (.aload_n 0, 1) := by decide +kernel
theorem dX5_join_10 : decode cX5_join 10 = .ok (.iload_n 2, 1) := by decide +kernel
theorem dX5_join_11 : decode cX5_join 11 = .ok (.invokevirtual 100, 3) := by decide +kernel
theorem dX5_join_14 : decode cX5_join 14 = .ok (.ifCond .ne 7, 3) := by decide +kernel
theorem dX5_join_17 : decode cX5_join 17 = .ok (.iconst 1, 1) := by decide +kernel
theorem dX5_join_18 : decode cX5_join 18 = .ok (.goto 4, 3) := by decide +kernel
theorem dX5_join_21 : decode cX5_join 21 = .ok (.iconst 0, 1) := by decide +kernel
theorem dX5_join_22 : decode cX5_join 22 = .ok (.putfield 77, 3) := by decide +kernel
theorem dX5_join_25 : decode cX5_join 25 = .ok (.aload_n 0, 1) := by decide +kernel
theorem dX5_join_26 : decode cX5_join 26 = .ok (.getfield 77, 3) := by decide +kernel
theorem dX5_join_29 : decode cX5_join 29 = .ok (.ifCond .ne 122, 3) := by decide +kernel
theorem dX5_join_32 : decode cX5_join 32 = .ok (.aload_n 0, 1) := by decide +kernel
theorem dX5_join_33 : decode cX5_join 33 = .ok (.aload_n 0, 1) := by decide +kernel
theorem dX5_join_34 : decode cX5_join 34 = .ok (.iload_n 1, 1) := by decide +kernel
theorem dX5_join_35 : decode cX5_join 35 = .ok (.invokevirtual 104, 3) := by decide +kernel
theorem dX5_join_38 : decode cX5_join 38 = .ok (.ifCond .eq 91, 3) := by decide +kernel
theorem dX5_join_41 : decode cX5_join 41 = .ok (.aload_n 0, 1) := by decide +kernel
theorem dX5_join_42 : decode cX5_join 42 = .ok (.iload_n 2, 1) := by decide +kernel
theorem dX5_join_43 : decode cX5_join 43 = .ok (.invokevirtual 104, 3) := by decide +kernel
theorem dX5_join_46 : decode cX5_join 46 = .ok (.ifCond .eq 83, 3) := by decide +kernel
theorem dX5_join_49 : decode cX5_join 49 = .ok (.iload_n 1, 1) := by decide +kernel
theorem dX5_join_50 : decode cX5_join 50 = .ok (.iload_n 2, 1) := by decide +kernel
theorem dX5_join_51 : decode cX5_join 51 = .ok (.if_icmp .eq 78, 3) := by decide +kernel
theorem dX5_join_54 : decode cX5_join 54 = .ok (.aload_n 0, 1) := by decide +kernel
theorem dX5_join_55 : decode cX5_join 55 = .ok (.getfield 7, 3) := by decide +kernel
theorem dX5_join_58 : decode cX5_join 58 = .ok (.iload_n 1, 1) := by decide +kernel
theorem dX5_join_59 : decode cX5_join 59 = .ok (.iaload, 1) := by decide +kernel
theorem dX5_join_60 : decode cX5_join 60 = .ok (.aload_n 0, 1) := by decide +kernel
theorem dX5_join_61 : decode cX5_join 61 = .ok (.getfield 7, 3) := by decide +kernel
theorem dX5_join_64 : decode cX5_join 64 = .ok (.iload_n 2, 1) := by decide +kernel
theorem dX5_join_65 : decode cX5_join 65 = .ok (.iaload, 1) := by decide +kernel
theorem dX5_join_66 : decode cX5_join 66 = .ok (.if_icmp .ne 63, 3) := by decide +kernel
theorem dX5_join_69 : decode cX5_join 69 = .ok (.aload_n 0, 1) := by decide +kernel
theorem dX5_join_70 : decode cX5_join 70 = .ok (.getfield 13, 3) := by decide +kernel
theorem dX5_join_73 : decode cX5_join 73 = .ok (.iload_n 1, 1) := by decide +kernel
theorem dX5_join_74 : decode cX5_join 74 = .ok (.iaload, 1) := by decide +kernel
theorem dX5_join_75 : decode cX5_join 75 = .ok (.aload_n 0, 1) := by decide +kernel
theorem dX5_join_76 : decode cX5_join 76 = .ok (.getfield 13, 3) := by decide +kernel
theorem dX5_join_79 : decode cX5_join 79 = .ok (.iload_n 2, 1) := by decide +kernel
theorem dX5_join_80 : decode cX5_join 80 = .ok (.iaload, 1) := by decide +kernel
theorem dX5_join_81 : decode cX5_join 81 = .ok (.if_icmp .ne 48, 3) := by decide +kernel
theorem dX5_join_84 : decode cX5_join 84 = .ok (.aload_n 0, 1) := by decide +kernel
theorem dX5_join_85 : decode cX5_join 85 = .ok (.getfield 16, 3) := by decide +kernel
theorem dX5_join_88 : decode cX5_join 88 = .ok (.iload_n 1, 1) := by decide +kernel
theorem dX5_join_89 : decode cX5_join 89 = .ok (.iaload, 1) := by decide +kernel
theorem dX5_join_90 : decode cX5_join 90 = .ok (.aload_n 0, 1) := by decide +kernel
theorem dX5_join_91 : decode cX5_join 91 = .ok (.getfield 16, 3) := by decide +kernel
theorem dX5_join_94 : decode cX5_join 94 = .ok (.iload_n 2, 1) := by decide +kernel
theorem dX5_join_95 : decode cX5_join 95 = .ok (.iaload, 1) := by decide +kernel
theorem dX5_join_96 : decode cX5_join 96 = .ok (.if_icmp .ne 33, 3) := by decide +kernel
theorem dX5_join_99 : decode cX5_join 99 = .ok (.aload_n 0, 1) := by decide +kernel
theorem dX5_join_100 : decode cX5_join 100 = .ok (.getfield 28, 3) := by decide +kernel
theorem dX5_join_103 : decode cX5_join 103 = .ok (.iload_n 1, 1) := by decide +kernel
theorem dX5_join_104 : decode cX5_join 104 = .ok (.iaload, 1) := by decide +kernel
theorem dX5_join_105 : decode cX5_join 105 = .ok (.aload_n 0, 1) := by decide +kernel
theorem dX5_join_106 : decode cX5_join 106 = .ok (.getfield 28, 3) := by decide +kernel
theorem dX5_join_109 : decode cX5_join 109 = .ok (.iload_n 2, 1) := by decide +kernel
theorem dX5_join_110 : decode cX5_join 110 = .ok (.iaload, 1) := by decide +kernel
theorem dX5_join_111 : decode cX5_join 111 = .ok (.if_icmp .ne 18, 3) := by decide +kernel
theorem dX5_join_114 : decode cX5_join 114 = .ok (.aload_n 0, 1) := by decide +kernel
theorem dX5_join_115 : decode cX5_join 115 = .ok (.getfield 31, 3) := by decide +kernel
theorem dX5_join_118 : decode cX5_join 118 = .ok (.iload_n 1, 1) := by decide +kernel
theorem dX5_join_119 : decode cX5_join 119 = .ok (.baload, 1) := by decide +kernel
theorem dX5_join_120 : decode cX5_join 120 = .ok (.aload_n 0, 1) := by decide +kernel
theorem dX5_join_121 : decode cX5_join 121 = .ok (.getfield 31, 3) := by decide +kernel
theorem dX5_join_124 : decode cX5_join 124 = .ok (.iload_n 2, 1) := by decide +kernel
theorem dX5_join_125 : decode cX5_join 125 = .ok (.baload, 1) := by decide +kernel
theorem dX5_join_126 : decode cX5_join 126 = .ok (.if_icmp .eq 7, 3) := by decide +kernel
theorem dX5_join_129 : decode cX5_join 129 = .ok (.iconst 2, 1) := by decide +kernel
theorem dX5_join_130 : decode cX5_join 130 = .ok (.goto 18, 3) := by decide +kernel
theorem dX5_join_133 : decode cX5_join 133 = .ok (.aload_n 0, 1) := by decide +kernel
theorem dX5_join_134 : decode cX5_join 134 = .ok (.getfield 88, 3) := by decide +kernel
theorem dX5_join_137 : decode cX5_join 137 = .ok (.sipush 398, 3) := by decide +kernel
theorem dX5_join_140 : decode cX5_join 140 = .ok (.if_icmp .le 7, 3) := by decide +kernel
theorem dX5_join_143 : decode cX5_join 143 = .ok (.iconst 3, 1) := by decide +kernel
theorem dX5_join_144 : decode cX5_join 144 = .ok (.goto 4, 3) := by decide +kernel
theorem dX5_join_147 : decode cX5_join 147 = .ok (.iconst 0, 1) := by decide +kernel
theorem dX5_join_148 : decode cX5_join 148 = .ok (.putfield 77, 3) := by decide +kernel
theorem dX5_join_151 : decode cX5_join 151 = .ok (.aload_n 0, 1) := by decide +kernel
theorem dX5_join_152 : decode cX5_join 152 = .ok (.getfield 77, 3) := by decide +kernel
theorem dX5_join_155 : decode cX5_join 155 = .ok (.ifCond .le 4, 3) := by decide +kernel
theorem dX5_join_158 : decode cX5_join 158 = .ok (.return_, 1) := by decide +kernel
theorem dX5_join_159 : decode cX5_join 159 = .ok (.aload_n 0, 1) := by decide +kernel
theorem dX5_join_160 : decode cX5_join 160 = .ok (.getfield 25, 3) := by decide +kernel
theorem dX5_join_163 : decode cX5_join 163 = .ok (.iload_n 2, 1) := by decide +kernel
theorem dX5_join_164 : decode cX5_join 164 = .ok (.iload_n 1, 1) := by decide +kernel
theorem dX5_join_165 : decode cX5_join 165 = .ok (.iastore, 1) := by decide +kernel
theorem dX5_join_166 : decode cX5_join 166 = .ok (.iconst 1, 1) := by decide +kernel
theorem dX5_join_167 : decode cX5_join 167 = .ok (.istore_n 3, 1) := by decide +kernel
theorem dX5_join_168 : decode cX5_join 168 = .ok (.iload_n 3, 1) := by decide +kernel
theorem dX5_join_169 : decode cX5_join 169 = .ok (.aload_n 0, 1) := by decide +kernel
theorem dX5_join_170 : decode cX5_join 170 = .ok (.getfield 121, 3) := by decide +kernel
theorem dX5_join_173 : decode cX5_join 173 = .ok (.if_icmp .gt 41, 3) := by decide +kernel
theorem dX5_join_176 : decode cX5_join 176 = .ok (.aload_n 0, 1) := by decide +kernel
theorem dX5_join_177 : decode cX5_join 177 = .ok (.getfield 47, 3) := by decide +kernel
theorem dX5_join_180 : decode cX5_join 180 = .ok (.iload_n 3, 1) := by decide +kernel
theorem dX5_join_181 : decode cX5_join 181 = .ok (.iaload, 1) := by decide +kernel
theorem dX5_join_182 : decode cX5_join 182 = .ok (.iload_n 2, 1) := by decide +kernel
theorem dX5_join_183 : decode cX5_join 183 = .ok (.if_icmp .eq 6, 3) := by decide +kernel
theorem dX5_join_186 : decode cX5_join 186 = .ok (.goto 22, 3) := by decide +kernel
theorem dX5_join_189 : decode cX5_join 189 = .ok (.aload_n 0, 1) := by decide +kernel
theorem dX5_join_190 : decode cX5_join 190 = .ok (.getfield 47, 3) := by decide +kernel
theorem dX5_join_193 : decode cX5_join 193 = .ok (.iload_n 3, 1) := by decide +kernel
theorem dX5_join_194 : decode cX5_join 194 = .ok (.iload_n 1, 1) := by decide +kernel
theorem dX5_join_195 : decode cX5_join 195 = .ok (.iastore, 1) := by decide +kernel
theorem dX5_join_196 : decode cX5_join 196 = .ok (.aload_n 0, 1) := by decide +kernel
theorem dX5_join_197 : decode cX5_join 197 = .ok (.getfield 59, 3) := by decide +kernel
theorem dX5_join_200 : decode cX5_join 200 = .ok (.bipush 41, 2) := by decide +kernel
theorem dX5_join_202 : decode cX5_join 202 = .ok (.iload_n 3, 1) := by decide +kernel
theorem dX5_join_203 : decode cX5_join 203 = .ok (.imul, 1) := by decide +kernel
theorem dX5_join_204 : decode cX5_join 204 = .ok (.iload_n 1, 1) := by decide +kernel
theorem dX5_join_205 : decode cX5_join 205 = .ok (.iadd, 1) := by decide +kernel
theorem dX5_join_206 : decode cX5_join 206 = .ok (.iconst 1, 1) := by decide +kernel
theorem dX5_join_207 : decode cX5_join 207 = .ok (.bastore, 1) := by decide +kernel
theorem dX5_join_208 : decode cX5_join 208 = .ok (.iinc 3 1, 3) := by decide +kernel
theorem dX5_join_211 : decode cX5_join 211 = .ok (.goto (-43), 3) := by decide +kernel
theorem dX5_join_214 : decode cX5_join 214 = .ok (.aload_n 0, 1) := by decide +kernel
theorem dX5_join_215 : decode cX5_join 215 = .ok (.iload_n 1, 1) := by decide +kernel
theorem dX5_join_216 : decode cX5_join 216 = .ok (.iconst 4, 1) := by decide +kernel
theorem dX5_join_217 : decode cX5_join 217 = .ok (.iload_n 2, 1) := by decide +kernel
theorem dX5_join_218 : decode cX5_join 218 = .ok (.invokevirtual 96, 3) := by decide +kernel
theorem dX5_join_221 : decode cX5_join 221 = .ok (.aload_n 0, 1) := by decide +kernel
theorem dX5_join_222 : decode cX5_join 222 = .ok (.iload_n 2, 1) := by decide +kernel
theorem dX5_join_223 : decode cX5_join 223 = .ok (.iconst 5, 1) := by decide +kernel
theorem dX5_join_224 : decode cX5_join 224 = .ok (.iload_n 1, 1) := by decide +kernel
theorem dX5_join_225 : decode cX5_join 225 = .ok (.invokevirtual 96, 3) := by decide +kernel
theorem dX5_join_228 : decode cX5_join 228 = .ok (.return_, 1) := by decide +kernel
theorem dX5_unit_0 : decode cX5_unit 0 = .ok (.aload_n 0, 1) := by decide +kernel
theorem dX5_unit_1 : decode cX5_unit 1 = .ok (.aload_n 0, 1) := by decide +kernel
theorem dX5_unit_2 : decode cX5_unit 2 = .ok (.iload_n 1, 1) := by decide +kernel
theorem dX5_unit_3 : decode cX5_unit 3 = .ok (.invokevirtual 100, 3) := by decide +kernel
theorem dX5_unit_6 : decode cX5_unit 6 = .ok (.ifCond .ne 7, 3) := by decide +kernel
theorem dX5_unit_9 : decode cX5_unit 9 = .ok (.iconst 1, 1) := by decide +kernel
theorem dX5_unit_10 : decode cX5_unit 10 = .ok (.goto 39, 3) := by decide +kernel
theorem dX5_unit_13 : decode cX5_unit 13 = .ok (.aload_n 0, 1) := by decide +kernel
theorem dX5_unit_14 : decode cX5_unit 14 = .ok (.iload_n 1, 1) := by decide +kernel
theorem dX5_unit_15 : decode cX5_unit 15 = .ok (.invokevirtual 104, 3) := by decide +kernel
theorem dX5_unit_18 : decode cX5_unit 18 = .ok (.ifCond .ne 7, 3) := by decide +kernel
theorem dX5_unit_21 : decode cX5_unit 21 = .ok (.iconst 2, 1) := by decide +kernel
theorem dX5_unit_22 : decode cX5_unit 22 = .ok (.goto 27, 3) := by decide +kernel
theorem dX5_unit_25 : decode cX5_unit 25 = .ok (.aload_n 0, 1) := by decide +kernel
theorem dX5_unit_26 : decode cX5_unit 26 = .ok (.getfield 121, 3) := by decide +kernel
theorem dX5_unit_29 : decode cX5_unit 29 = .ok (.bipush 120, 2) := by decide +kernel
theorem dX5_unit_31 : decode cX5_unit 31 = .ok (.if_icmp .eq 13, 3) := by decide +kernel
theorem dX5_unit_34 : decode cX5_unit 34 = .ok (.aload_n 0, 1) := by decide +kernel
theorem dX5_unit_35 : decode cX5_unit 35 = .ok (.getfield 88, 3) := by decide +kernel
theorem dX5_unit_38 : decode cX5_unit 38 = .ok (.sipush 400, 3) := by decide +kernel
theorem dX5_unit_41 : decode cX5_unit 41 = .ok (.if_icmp .ne 7, 3) := by decide +kernel
theorem dX5_unit_44 : decode cX5_unit 44 = .ok (.iconst 3, 1) := by decide +kernel
theorem dX5_unit_45 : decode cX5_unit 45 = .ok (.goto 4, 3) := by decide +kernel
theorem dX5_unit_48 : decode cX5_unit 48 = .ok (.iconst 0, 1) := by decide +kernel
theorem dX5_unit_49 : decode cX5_unit 49 = .ok (.putfield 77, 3) := by decide +kernel
theorem dX5_unit_52 : decode cX5_unit 52 = .ok (.aload_n 0, 1) := by decide +kernel
theorem dX5_unit_53 : decode cX5_unit 53 = .ok (.getfield 77, 3) := by decide +kernel
theorem dX5_unit_56 : decode cX5_unit 56 = .ok (.ifCond .le 5, 3) := by decide +kernel
theorem dX5_unit_59 : decode cX5_unit 59 = .ok (.iconst 0, 1) := by decide +kernel
theorem dX5_unit_60 : decode cX5_unit 60 = .ok (.ireturn, 1) := by decide +kernel
theorem dX5_unit_61 : decode cX5_unit 61 = .ok (.aload_n 0, 1) := by decide +kernel
theorem dX5_unit_62 : decode cX5_unit 62 = .ok (.dup, 1) := by decide +kernel
theorem dX5_unit_63 : decode cX5_unit 63 = .ok (.getfield 121, 3) := by decide +kernel
theorem dX5_unit_66 : decode cX5_unit 66 = .ok (.iconst 1, 1) := by decide +kernel
theorem dX5_unit_67 : decode cX5_unit 67 = .ok (.iadd, 1) := by decide +kernel
theorem dX5_unit_68 : decode cX5_unit 68 = .ok (.putfield 121, 3) := by decide +kernel
theorem dX5_unit_71 : decode cX5_unit 71 = .ok (.aload_n 0, 1) := by decide +kernel
theorem dX5_unit_72 : decode cX5_unit 72 = .ok (.getfield 47, 3) := by decide +kernel
theorem dX5_unit_75 : decode cX5_unit 75 = .ok (.aload_n 0, 1) := by decide +kernel
theorem dX5_unit_76 : decode cX5_unit 76 = .ok (.getfield 121, 3) := by decide +kernel
theorem dX5_unit_79 : decode cX5_unit 79 = .ok (.iload_n 1, 1) := by decide +kernel
theorem dX5_unit_80 : decode cX5_unit 80 = .ok (.iastore, 1) := by decide +kernel
theorem dX5_unit_81 : decode cX5_unit 81 = .ok (.aload_n 0, 1) := by decide +kernel
theorem dX5_unit_82 : decode cX5_unit 82 = .ok (.getfield 50, 3) := by decide +kernel
theorem dX5_unit_85 : decode cX5_unit 85 = .ok (.aload_n 0, 1) := by decide +kernel
theorem dX5_unit_86 : decode cX5_unit 86 = .ok (.getfield 121, 3) := by decide +kernel
theorem dX5_unit_89 : decode cX5_unit 89 = .ok (.iconst (-1), 1) := by decide +kernel
theorem dX5_unit_90 : decode cX5_unit 90 = .ok (.iastore, 1) := by decide +kernel
theorem dX5_unit_91 : decode cX5_unit 91 = .ok (.aload_n 0, 1) := by decide +kernel
theorem dX5_unit_92 : decode cX5_unit 92 = .ok (.getfield 53, 3) := by decide +kernel
theorem dX5_unit_95 : decode cX5_unit 95 = .ok (.aload_n 0, 1) := by decide +kernel
theorem dX5_unit_96 : decode cX5_unit 96 = .ok (.getfield 121, 3) := by decide +kernel
theorem dX5_unit_99 : decode cX5_unit 99 = .ok (.iconst (-1), 1) := by decide +kernel
theorem dX5_unit_100 : decode cX5_unit 100 = .ok (.iastore, 1) := by decide +kernel
theorem dX5_unit_101 : decode cX5_unit 101 = .ok (.aload_n 0, 1) := by decide +kernel
theorem dX5_unit_102 : decode cX5_unit 102 = .ok (.getfield 56, 3) := by decide +kernel
theorem dX5_unit_105 : decode cX5_unit 105 = .ok (.aload_n 0, 1) := by decide +kernel
theorem dX5_unit_106 : decode cX5_unit 106 = .ok (.getfield 121, 3) := by decide +kernel
theorem dX5_unit_109 : decode cX5_unit 109 = .ok (.iconst (-1), 1) := by decide +kernel
theorem dX5_unit_110 : decode cX5_unit 110 = .ok (.iastore, 1) := by decide +kernel
theorem dX5_unit_111 : decode cX5_unit 111 = .ok (.aload_n 0, 1) := by decide +kernel
theorem dX5_unit_112 : decode cX5_unit 112 = .ok (.getfield 59, 3) := by decide +kernel
theorem dX5_unit_115 : decode cX5_unit 115 = .ok (.bipush 41, 2) := by decide +kernel
theorem dX5_unit_117 : decode cX5_unit 117 = .ok (.aload_n 0, 1) := by decide +kernel
theorem dX5_unit_118 : decode cX5_unit 118 = .ok (.getfield 121, 3) := by decide +kernel
theorem dX5_unit_121 : decode cX5_unit 121 = .ok (.imul, 1) := by decide +kernel
theorem dX5_unit_122 : decode cX5_unit 122 = .ok (.iload_n 1, 1) := by decide +kernel
theorem dX5_unit_123 : decode cX5_unit 123 = .ok (.iadd, 1) := by decide +kernel
theorem dX5_unit_124 : decode cX5_unit 124 = .ok (.iconst 1, 1) := by decide +kernel
theorem dX5_unit_125 : decode cX5_unit 125 = .ok (.bastore, 1) := by decide +kernel
theorem dX5_unit_126 : decode cX5_unit 126 = .ok (.aload_n 0, 1) := by decide +kernel
theorem dX5_unit_127 : decode cX5_unit 127 = .ok (.iload_n 1, 1) := by decide +kernel
theorem dX5_unit_128 : decode cX5_unit 128 = .ok (.bipush 10, 2) := by decide +kernel
theorem dX5_unit_130 : decode cX5_unit 130 = .ok (.aload_n 0, 1) := by decide +kernel
theorem dX5_unit_131 : decode cX5_unit 131 = .ok (.getfield 121, 3) := by decide +kernel
theorem dX5_unit_134 : decode cX5_unit 134 = .ok (.invokevirtual 96, 3) := by decide +kernel
theorem dX5_unit_137 : decode cX5_unit 137 = .ok (.aload_n 0, 1) := by decide +kernel
theorem dX5_unit_138 : decode cX5_unit 138 = .ok (.getfield 121, 3) := by decide +kernel
theorem dX5_unit_141 : decode cX5_unit 141 = .ok (.ireturn, 1) := by decide +kernel
theorem dX5_put_0 : decode cX5_put 0 = .ok (.aload_n 0, 1) := by decide +kernel
theorem dX5_put_1 : decode cX5_put 1 = .ok (.aload_n 0, 1) := by decide +kernel
theorem dX5_put_2 : decode cX5_put 2 = .ok (.iload_n 1, 1) := by decide +kernel
theorem dX5_put_3 : decode cX5_put 3 = .ok (.invokevirtual 124, 3) := by decide +kernel
theorem dX5_put_6 : decode cX5_put 6 = .ok (.ifCond .ne 7, 3) := by decide +kernel
theorem dX5_put_9 : decode cX5_put 9 = .ok (.iconst 1, 1) := by decide +kernel
theorem dX5_put_10 : decode cX5_put 10 = .ok (.goto 18, 3) := by decide +kernel
theorem dX5_put_13 : decode cX5_put 13 = .ok (.iload_n 2, 1) := by decide +kernel
theorem dX5_put_14 : decode cX5_put 14 = .ok (.iconst 0, 1) := by decide +kernel
theorem dX5_put_15 : decode cX5_put 15 = .ok (.bipush 19, 2) := by decide +kernel
theorem dX5_put_17 : decode cX5_put 17 = .ok (.invokestatic 84, 3) := by decide +kernel
theorem dX5_put_20 : decode cX5_put 20 = .ok (.ifCond .ne 7, 3) := by decide +kernel
theorem dX5_put_23 : decode cX5_put 23 = .ok (.iconst 2, 1) := by decide +kernel
theorem dX5_put_24 : decode cX5_put 24 = .ok (.goto 4, 3) := by decide +kernel
theorem dX5_put_27 : decode cX5_put 27 = .ok (.iconst 0, 1) := by decide +kernel
theorem dX5_put_28 : decode cX5_put 28 = .ok (.putfield 77, 3) := by decide +kernel
theorem dX5_put_31 : decode cX5_put 31 = .ok (.aload_n 0, 1) := by decide +kernel
theorem dX5_put_32 : decode cX5_put 32 = .ok (.getfield 77, 3) := by decide +kernel
theorem dX5_put_35 : decode cX5_put 35 = .ok (.ifCond .ne 30, 3) := by decide +kernel
theorem dX5_put_38 : decode cX5_put 38 = .ok (.aload_n 0, 1) := by decide +kernel
theorem dX5_put_39 : decode cX5_put 39 = .ok (.aload_n 0, 1) := by decide +kernel
theorem dX5_put_40 : decode cX5_put 40 = .ok (.iload_n 1, 1) := by decide +kernel
theorem dX5_put_41 : decode cX5_put 41 = .ok (.invokevirtual 127, 3) := by decide +kernel
theorem dX5_put_44 : decode cX5_put 44 = .ok (.ifCond .ne 13, 3) := by decide +kernel
theorem dX5_put_47 : decode cX5_put 47 = .ok (.aload_n 0, 1) := by decide +kernel
theorem dX5_put_48 : decode cX5_put 48 = .ok (.getfield 50, 3) := by decide +kernel
theorem dX5_put_51 : decode cX5_put 51 = .ok (.iload_n 1, 1) := by decide +kernel
theorem dX5_put_52 : decode cX5_put 52 = .ok (.iaload, 1) := by decide +kernel
theorem dX5_put_53 : decode cX5_put 53 = .ok (.iload_n 2, 1) := by decide +kernel
theorem dX5_put_54 : decode cX5_put 54 = .ok (.if_icmp .ne 7, 3) := by decide +kernel
theorem dX5_put_57 : decode cX5_put 57 = .ok (.iconst 3, 1) := by decide +kernel
theorem dX5_put_58 : decode cX5_put 58 = .ok (.goto 4, 3) := by decide +kernel
theorem dX5_put_61 : decode cX5_put 61 = .ok (.iconst 0, 1) := by decide +kernel
theorem dX5_put_62 : decode cX5_put 62 = .ok (.putfield 77, 3) := by decide +kernel
theorem dX5_put_65 : decode cX5_put 65 = .ok (.iconst 1, 1) := by decide +kernel
theorem dX5_put_66 : decode cX5_put 66 = .ok (.istore_n 3, 1) := by decide +kernel
theorem dX5_put_67 : decode cX5_put 67 = .ok (.iload_n 3, 1) := by decide +kernel
theorem dX5_put_68 : decode cX5_put 68 = .ok (.aload_n 0, 1) := by decide +kernel
theorem dX5_put_69 : decode cX5_put 69 = .ok (.getfield 121, 3) := by decide +kernel
theorem dX5_put_72 : decode cX5_put 72 = .ok (.if_icmp .gt 77, 3) := by decide +kernel
theorem dX5_put_75 : decode cX5_put 75 = .ok (.aload_n 0, 1) := by decide +kernel
theorem dX5_put_76 : decode cX5_put 76 = .ok (.getfield 77, 3) := by decide +kernel
theorem dX5_put_79 : decode cX5_put 79 = .ok (.ifCond .ne 70, 3) := by decide +kernel
theorem dX5_put_82 : decode cX5_put 82 = .ok (.aload_n 0, 1) := by decide +kernel
theorem dX5_put_83 : decode cX5_put 83 = .ok (.getfield 50, 3) := by decide +kernel
theorem dX5_put_86 : decode cX5_put 86 = .ok (.iload_n 3, 1) := by decide +kernel
theorem dX5_put_87 : decode cX5_put 87 = .ok (.iaload, 1) := by decide +kernel
theorem dX5_put_88 : decode cX5_put 88 = .ok (.iload_n 2, 1) := by decide +kernel
theorem dX5_put_89 : decode cX5_put 89 = .ok (.if_icmp .ne 54, 3) := by decide +kernel
theorem dX5_put_92 : decode cX5_put 92 = .ok (.aload_n 0, 1) := by decide +kernel
theorem dX5_put_93 : decode cX5_put 93 = .ok (.aload_n 0, 1) := by decide +kernel
theorem dX5_put_94 : decode cX5_put 94 = .ok (.getfield 47, 3) := by decide +kernel
theorem dX5_put_97 : decode cX5_put 97 = .ok (.iload_n 1, 1) := by decide +kernel
theorem dX5_put_98 : decode cX5_put 98 = .ok (.iaload, 1) := by decide +kernel
theorem dX5_put_99 : decode cX5_put 99 = .ok (.aload_n 0, 1) := by decide +kernel
theorem dX5_put_100 : decode cX5_put 100 = .ok (.getfield 47, 3) := by decide +kernel
theorem dX5_put_103 : decode cX5_put 103 = .ok (.iload_n 3, 1) := by decide +kernel
theorem dX5_put_104 : decode cX5_put 104 = .ok (.iaload, 1) := by decide +kernel
theorem dX5_put_105 : decode cX5_put 105 = .ok (.invokevirtual 130, 3) := by decide +kernel
theorem dX5_put_108 : decode cX5_put 108 = .ok (.ifCond .eq 6, 3) := by decide +kernel
theorem dX5_put_111 : decode cX5_put 111 = .ok (.goto 32, 3) := by decide +kernel
theorem dX5_put_114 : decode cX5_put 114 = .ok (.aload_n 0, 1) := by decide +kernel
theorem dX5_put_115 : decode cX5_put 115 = .ok (.getfield 71, 3) := by decide +kernel
theorem dX5_put_118 : decode cX5_put 118 = .ok (.iconst 0, 1) := by decide +kernel
theorem dX5_put_119 : decode cX5_put 119 = .ok (.aload_n 0, 1) := by decide +kernel
theorem dX5_put_120 : decode cX5_put 120 = .ok (.getfield 47, 3) := by decide +kernel
theorem dX5_put_123 : decode cX5_put 123 = .ok (.iload_n 1, 1) := by decide +kernel
theorem dX5_put_124 : decode cX5_put 124 = .ok (.iaload, 1) := by decide +kernel
theorem dX5_put_125 : decode cX5_put 125 = .ok (.iastore, 1) := by decide +kernel
theorem dX5_put_126 : decode cX5_put 126 = .ok (.aload_n 0, 1) := by decide +kernel
theorem dX5_put_127 : decode cX5_put 127 = .ok (.getfield 71, 3) := by decide +kernel
theorem dX5_put_130 : decode cX5_put 130 = .ok (.iconst 1, 1) := by decide +kernel
theorem dX5_put_131 : decode cX5_put 131 = .ok (.aload_n 0, 1) := by decide +kernel
theorem dX5_put_132 : decode cX5_put 132 = .ok (.getfield 47, 3) := by decide +kernel
theorem dX5_put_135 : decode cX5_put 135 = .ok (.iload_n 3, 1) := by decide +kernel
theorem dX5_put_136 : decode cX5_put 136 = .ok (.iaload, 1) := by decide +kernel
theorem dX5_put_137 : decode cX5_put 137 = .ok (.iastore, 1) := by decide +kernel
theorem dX5_put_138 : decode cX5_put 138 = .ok (.aload_n 0, 1) := by decide +kernel
theorem dX5_put_139 : decode cX5_put 139 = .ok (.iconst 3, 1) := by decide +kernel
theorem dX5_put_140 : decode cX5_put 140 = .ok (.putfield 77, 3) := by decide +kernel
theorem dX5_put_143 : decode cX5_put 143 = .ok (.iinc 3 1, 3) := by decide +kernel
theorem dX5_put_146 : decode cX5_put 146 = .ok (.goto (-79), 3) := by decide +kernel
theorem dX5_put_149 : decode cX5_put 149 = .ok (.aload_n 0, 1) := by decide +kernel
theorem dX5_put_150 : decode cX5_put 150 = .ok (.getfield 77, 3) := by decide +kernel
theorem dX5_put_153 : decode cX5_put 153 = .ok (.ifCond .ne 10, 3) := by decide +kernel
theorem dX5_put_156 : decode cX5_put 156 = .ok (.aload_n 0, 1) := by decide +kernel
theorem dX5_put_157 : decode cX5_put 157 = .ok (.getfield 50, 3) := by decide +kernel
theorem dX5_put_160 : decode cX5_put 160 = .ok (.iload_n 1, 1) := by decide +kernel
theorem dX5_put_161 : decode cX5_put 161 = .ok (.iload_n 2, 1) := by decide +kernel
theorem dX5_put_162 : decode cX5_put 162 = .ok (.iastore, 1) := by decide +kernel
theorem dX5_put_163 : decode cX5_put 163 = .ok (.return_, 1) := by decide +kernel
theorem dX5_isUnit_0 : decode cX5_isUnit 0 = .ok (.iload_n 1, 1) := by decide +kernel
theorem dX5_isUnit_1 : decode cX5_isUnit 1 = .ok (.iconst 1, 1) := by decide +kernel
theorem dX5_isUnit_2 : decode cX5_isUnit 2 = .ok (.aload_n 0, 1) := by decide +kernel
theorem dX5_isUnit_3 : decode cX5_isUnit 3 = .ok (.getfield 121, 3) := by decide +kernel
theorem dX5_isUnit_6 : decode cX5_isUnit 6 = .ok (.invokestatic 84, 3) := by decide +kernel
theorem dX5_isUnit_9 : decode cX5_isUnit 9 = .ok (.ireturn, 1) := by decide +kernel
theorem dX5_isGone_0 : decode cX5_isGone 0 = .ok (.aload_n 0, 1) := by decide +kernel
theorem dX5_isGone_1 : decode cX5_isGone 1 = .ok (.getfield 53, 3) := by decide +kernel
theorem dX5_isGone_4 : decode cX5_isGone 4 = .ok (.iload_n 1, 1) := by decide +kernel
theorem dX5_isGone_5 : decode cX5_isGone 5 = .ok (.iaload, 1) := by decide +kernel
theorem dX5_isGone_6 : decode cX5_isGone 6 = .ok (.iconst (-1), 1) := by decide +kernel
theorem dX5_isGone_7 : decode cX5_isGone 7 = .ok (.if_icmp .eq 7, 3) := by decide +kernel
theorem dX5_isGone_10 : decode cX5_isGone 10 = .ok (.iconst 1, 1) := by decide +kernel
theorem dX5_isGone_11 : decode cX5_isGone 11 = .ok (.goto 4, 3) := by decide +kernel
theorem dX5_isGone_14 : decode cX5_isGone 14 = .ok (.iconst 0, 1) := by decide +kernel
theorem dX5_isGone_15 : decode cX5_isGone 15 = .ok (.ireturn, 1) := by decide +kernel
theorem dX5_mayMix_0 : decode cX5_mayMix 0 = .ok (.aload_n 0, 1) := by decide +kernel
theorem dX5_mayMix_1 : decode cX5_mayMix 1 = .ok (.getfield 7, 3) := by decide +kernel
theorem dX5_mayMix_4 : decode cX5_mayMix 4 = .ok (.iload_n 1, 1) := by decide +kernel
theorem dX5_mayMix_5 : decode cX5_mayMix 5 = .ok (.iaload, 1) := by decide +kernel
theorem dX5_mayMix_6 : decode cX5_mayMix 6 = .ok (.aload_n 0, 1) := by decide +kernel
theorem dX5_mayMix_7 : decode cX5_mayMix 7 = .ok (.getfield 7, 3) := by decide +kernel
theorem dX5_mayMix_10 : decode cX5_mayMix 10 = .ok (.iload_n 2, 1) := by decide +kernel
theorem dX5_mayMix_11 : decode cX5_mayMix 11 = .ok (.iaload, 1) := by decide +kernel
theorem dX5_mayMix_12 : decode cX5_mayMix 12 = .ok (.if_icmp .ne 18, 3) := by decide +kernel
theorem dX5_mayMix_15 : decode cX5_mayMix 15 = .ok (.aload_n 0, 1) := by decide +kernel
theorem dX5_mayMix_16 : decode cX5_mayMix 16 = .ok (.getfield 13, 3) := by decide +kernel
theorem dX5_mayMix_19 : decode cX5_mayMix 19 = .ok (.iload_n 1, 1) := by decide +kernel
theorem dX5_mayMix_20 : decode cX5_mayMix 20 = .ok (.iaload, 1) := by decide +kernel
theorem dX5_mayMix_21 : decode cX5_mayMix 21 = .ok (.aload_n 0, 1) := by decide +kernel
theorem dX5_mayMix_22 : decode cX5_mayMix 22 = .ok (.getfield 13, 3) := by decide +kernel
theorem dX5_mayMix_25 : decode cX5_mayMix 25 = .ok (.iload_n 2, 1) := by decide +kernel
theorem dX5_mayMix_26 : decode cX5_mayMix 26 = .ok (.iaload, 1) := by decide +kernel
theorem dX5_mayMix_27 : decode cX5_mayMix 27 = .ok (.if_icmp .eq 5, 3) := by decide +kernel
theorem dX5_mayMix_30 : decode cX5_mayMix 30 = .ok (.iconst 1, 1) := by decide +kernel
theorem dX5_mayMix_31 : decode cX5_mayMix 31 = .ok (.ireturn, 1) := by decide +kernel
theorem dX5_mayMix_32 : decode cX5_mayMix 32 = .ok (.aload_n 0, 1) := by decide +kernel
theorem dX5_mayMix_33 : decode cX5_mayMix 33 = .ok (.getfield 16, 3) := by decide +kernel
theorem dX5_mayMix_36 : decode cX5_mayMix 36 = .ok (.iload_n 1, 1) := by decide +kernel
theorem dX5_mayMix_37 : decode cX5_mayMix 37 = .ok (.iaload, 1) := by decide +kernel
theorem dX5_mayMix_38 : decode cX5_mayMix 38 = .ok (.aload_n 0, 1) := by decide +kernel
theorem dX5_mayMix_39 : decode cX5_mayMix 39 = .ok (.getfield 16, 3) := by decide +kernel
theorem dX5_mayMix_42 : decode cX5_mayMix 42 = .ok (.iload_n 2, 1) := by decide +kernel
theorem dX5_mayMix_43 : decode cX5_mayMix 43 = .ok (.iaload, 1) := by decide +kernel
theorem dX5_mayMix_44 : decode cX5_mayMix 44 = .ok (.if_icmp .le 19, 3) := by decide +kernel
theorem dX5_mayMix_47 : decode cX5_mayMix 47 = .ok (.aload_n 0, 1) := by decide +kernel
theorem dX5_mayMix_48 : decode cX5_mayMix 48 = .ok (.getfield 16, 3) := by decide +kernel
theorem dX5_mayMix_51 : decode cX5_mayMix 51 = .ok (.iload_n 1, 1) := by decide +kernel
theorem dX5_mayMix_52 : decode cX5_mayMix 52 = .ok (.iaload, 1) := by decide +kernel
theorem dX5_mayMix_53 : decode cX5_mayMix 53 = .ok (.aload_n 0, 1) := by decide +kernel
theorem dX5_mayMix_54 : decode cX5_mayMix 54 = .ok (.getfield 16, 3) := by decide +kernel
theorem dX5_mayMix_57 : decode cX5_mayMix 57 = .ok (.iload_n 2, 1) := by decide +kernel
theorem dX5_mayMix_58 : decode cX5_mayMix 58 = .ok (.iaload, 1) := by decide +kernel
theorem dX5_mayMix_59 : decode cX5_mayMix 59 = .ok (.isub, 1) := by decide +kernel
theorem dX5_mayMix_60 : decode cX5_mayMix 60 = .ok (.goto 16, 3) := by decide +kernel
theorem dX5_mayMix_63 : decode cX5_mayMix 63 = .ok (.aload_n 0, 1) := by decide +kernel
theorem dX5_mayMix_64 : decode cX5_mayMix 64 = .ok (.getfield 16, 3) := by decide +kernel
theorem dX5_mayMix_67 : decode cX5_mayMix 67 = .ok (.iload_n 2, 1) := by decide +kernel
theorem dX5_mayMix_68 : decode cX5_mayMix 68 = .ok (.iaload, 1) := by decide +kernel
theorem dX5_mayMix_69 : decode cX5_mayMix 69 = .ok (.aload_n 0, 1) := by decide +kernel
theorem dX5_mayMix_70 : decode cX5_mayMix 70 = .ok (.getfield 16, 3) := by decide +kernel
theorem dX5_mayMix_73 : decode cX5_mayMix 73 = .ok (.iload_n 1, 1) := by decide +kernel
theorem dX5_mayMix_74 : decode cX5_mayMix 74 = .ok (.iaload, 1) := by decide +kernel
theorem dX5_mayMix_75 : decode cX5_mayMix 75 = .ok (.isub, 1) := by decide +kernel
theorem dX5_mayMix_76 : decode cX5_mayMix 76 = .ok (.istore_n 3, 1) := by decide +kernel
theorem dX5_mayMix_77 : decode cX5_mayMix 77 = .ok (.iload_n 3, 1) := by decide +kernel
theorem dX5_mayMix_78 : decode cX5_mayMix 78 = .ok (.aload_n 0, 1) := by decide +kernel
theorem dX5_mayMix_79 : decode cX5_mayMix 79 = .ok (.getfield 38, 3) := by decide +kernel
theorem dX5_mayMix_82 : decode cX5_mayMix 82 = .ok (.aload_n 0, 1) := by decide +kernel
theorem dX5_mayMix_83 : decode cX5_mayMix 83 = .ok (.getfield 13, 3) := by decide +kernel
theorem dX5_mayMix_86 : decode cX5_mayMix 86 = .ok (.iload_n 1, 1) := by decide +kernel
theorem dX5_mayMix_87 : decode cX5_mayMix 87 = .ok (.iaload, 1) := by decide +kernel
theorem dX5_mayMix_88 : decode cX5_mayMix 88 = .ok (.iaload, 1) := by decide +kernel
theorem dX5_mayMix_89 : decode cX5_mayMix 89 = .ok (.if_icmp .gt 7, 3) := by decide +kernel
theorem dX5_mayMix_92 : decode cX5_mayMix 92 = .ok (.iconst 1, 1) := by decide +kernel
theorem dX5_mayMix_93 : decode cX5_mayMix 93 = .ok (.goto 4, 3) := by decide +kernel
theorem dX5_mayMix_96 : decode cX5_mayMix 96 = .ok (.iconst 0, 1) := by decide +kernel
theorem dX5_mayMix_97 : decode cX5_mayMix 97 = .ok (.ireturn, 1) := by decide +kernel
theorem dX5_mixed_0 : decode cX5_mixed 0 = .ok (.aload_n 0, 1) := by decide +kernel
theorem dX5_mixed_1 : decode cX5_mixed 1 = .ok (.iload_n 1, 1) := by decide +kernel
theorem dX5_mixed_2 : decode cX5_mixed 2 = .ok (.iconst 0, 1) := by decide +kernel
theorem dX5_mixed_3 : decode cX5_mixed 3 = .ok (.iconst 1, 1) := by decide +kernel
theorem dX5_mixed_4 : decode cX5_mixed 4 = .ok (.invokestatic 84, 3) := by decide +kernel
theorem dX5_mixed_7 : decode cX5_mixed 7 = .ok (.ifCond .eq 7, 3) := by decide +kernel
theorem dX5_mixed_10 : decode cX5_mixed 10 = .ok (.iconst 0, 1) := by decide +kernel
theorem dX5_mixed_11 : decode cX5_mixed 11 = .ok (.goto 4, 3) := by decide +kernel
theorem dX5_mixed_14 : decode cX5_mixed 14 = .ok (.iconst 1, 1) := by decide +kernel
theorem dX5_mixed_15 : decode cX5_mixed 15 = .ok (.putfield 77, 3) := by decide +kernel
theorem dX5_mixed_18 : decode cX5_mixed 18 = .ok (.aload_n 0, 1) := by decide +kernel
theorem dX5_mixed_19 : decode cX5_mixed 19 = .ok (.getfield 77, 3) := by decide +kernel
theorem dX5_mixed_22 : decode cX5_mixed 22 = .ok (.ifCond .le 7, 3) := by decide +kernel
theorem dX5_mixed_25 : decode cX5_mixed 25 = .ok (.iconst 0, 1) := by decide +kernel
theorem dX5_mixed_26 : decode cX5_mixed 26 = .ok (.goto 9, 3) := by decide +kernel
theorem dX5_mixed_29 : decode cX5_mixed 29 = .ok (.aload_n 0, 1) := by decide +kernel
theorem dX5_mixed_30 : decode cX5_mixed 30 = .ok (.getfield 71, 3) := by decide +kernel
theorem dX5_mixed_33 : decode cX5_mixed 33 = .ok (.iload_n 1, 1) := by decide +kernel
theorem dX5_mixed_34 : decode cX5_mixed 34 = .ok (.iaload, 1) := by decide +kernel
theorem dX5_mixed_35 : decode cX5_mixed 35 = .ok (.ireturn, 1) := by decide +kernel
theorem dX5_ship_0 : decode cX5_ship 0 = .ok (.aload_n 0, 1) := by decide +kernel
theorem dX5_ship_1 : decode cX5_ship 1 = .ok (.aload_n 0, 1) := by decide +kernel
theorem dX5_ship_2 : decode cX5_ship 2 = .ok (.iload_n 1, 1) := by decide +kernel
theorem dX5_ship_3 : decode cX5_ship 3 = .ok (.invokevirtual 124, 3) := by decide +kernel
theorem dX5_ship_6 : decode cX5_ship 6 = .ok (.ifCond .ne 7, 3) := by decide +kernel
theorem dX5_ship_9 : decode cX5_ship 9 = .ok (.iconst 1, 1) := by decide +kernel
theorem dX5_ship_10 : decode cX5_ship 10 = .ok (.goto 28, 3) := by decide +kernel
theorem dX5_ship_13 : decode cX5_ship 13 = .ok (.iload_n 2, 1) := by decide +kernel
theorem dX5_ship_14 : decode cX5_ship 14 = .ok (.iconst 0, 1) := by decide +kernel
theorem dX5_ship_15 : decode cX5_ship 15 = .ok (.bipush 7, 2) := by decide +kernel
theorem dX5_ship_17 : decode cX5_ship 17 = .ok (.invokestatic 84, 3) := by decide +kernel
theorem dX5_ship_20 : decode cX5_ship 20 = .ok (.ifCond .eq 13, 3) := by decide +kernel
theorem dX5_ship_23 : decode cX5_ship 23 = .ok (.iload_n 3, 1) := by decide +kernel
theorem dX5_ship_24 : decode cX5_ship 24 = .ok (.iconst 0, 1) := by decide +kernel
theorem dX5_ship_25 : decode cX5_ship 25 = .ok (.ldc 91, 2) := by decide +kernel
theorem dX5_ship_27 : decode cX5_ship 27 = .ok (.invokestatic 84, 3) := by decide +kernel
theorem dX5_ship_30 : decode cX5_ship 30 = .ok (.ifCond .ne 7, 3) := by decide +kernel
theorem dX5_ship_33 : decode cX5_ship 33 = .ok (.iconst 2, 1) := by decide +kernel
theorem dX5_ship_34 : decode cX5_ship 34 = .ok (.goto 4, 3) := by decide +kernel
theorem dX5_ship_37 : decode cX5_ship 37 = .ok (.iconst 0, 1) := by decide +kernel
theorem dX5_ship_38 : decode cX5_ship 38 = .ok (.putfield 77, 3) := by decide +kernel
theorem dX5_ship_41 : decode cX5_ship 41 = .ok (.aload_n 0, 1) := by decide +kernel
theorem dX5_ship_42 : decode cX5_ship 42 = .ok (.getfield 77, 3) := by decide +kernel
theorem dX5_ship_45 : decode cX5_ship 45 = .ok (.ifCond .ne 49, 3) := by decide +kernel
theorem dX5_ship_48 : decode cX5_ship 48 = .ok (.aload_n 0, 1) := by decide +kernel
theorem dX5_ship_49 : decode cX5_ship 49 = .ok (.aload_n 0, 1) := by decide +kernel
theorem dX5_ship_50 : decode cX5_ship 50 = .ok (.iload_n 1, 1) := by decide +kernel
theorem dX5_ship_51 : decode cX5_ship 51 = .ok (.invokevirtual 127, 3) := by decide +kernel
theorem dX5_ship_54 : decode cX5_ship 54 = .ok (.ifCond .ne 18, 3) := by decide +kernel
theorem dX5_ship_57 : decode cX5_ship 57 = .ok (.aload_n 0, 1) := by decide +kernel
theorem dX5_ship_58 : decode cX5_ship 58 = .ok (.aload_n 0, 1) := by decide +kernel
theorem dX5_ship_59 : decode cX5_ship 59 = .ok (.getfield 47, 3) := by decide +kernel
theorem dX5_ship_62 : decode cX5_ship 62 = .ok (.iload_n 1, 1) := by decide +kernel
theorem dX5_ship_63 : decode cX5_ship 63 = .ok (.iaload, 1) := by decide +kernel
theorem dX5_ship_64 : decode cX5_ship 64 = .ok (.iload_n 2, 1) := by decide +kernel
theorem dX5_ship_65 : decode cX5_ship 65 = .ok (.iload_n 3, 1) := by decide +kernel
theorem dX5_ship_66 : decode cX5_ship 66 = .ok (.invokevirtual 118, 3) := by decide +kernel
theorem dX5_ship_69 : decode cX5_ship 69 = .ok (.ifCond .ne 7, 3) := by decide +kernel
theorem dX5_ship_72 : decode cX5_ship 72 = .ok (.iconst 3, 1) := by decide +kernel
theorem dX5_ship_73 : decode cX5_ship 73 = .ok (.goto 18, 3) := by decide +kernel
theorem dX5_ship_76 : decode cX5_ship 76 = .ok (.aload_n 0, 1) := by decide +kernel
theorem dX5_ship_77 : decode cX5_ship 77 = .ok (.getfield 88, 3) := by decide +kernel
theorem dX5_ship_80 : decode cX5_ship 80 = .ok (.sipush 400, 3) := by decide +kernel
theorem dX5_ship_83 : decode cX5_ship 83 = .ok (.if_icmp .ne 7, 3) := by decide +kernel
theorem dX5_ship_86 : decode cX5_ship 86 = .ok (.iconst 4, 1) := by decide +kernel
theorem dX5_ship_87 : decode cX5_ship 87 = .ok (.goto 4, 3) := by decide +kernel
theorem dX5_ship_90 : decode cX5_ship 90 = .ok (.iconst 0, 1) := by decide +kernel
theorem dX5_ship_91 : decode cX5_ship 91 = .ok (.putfield 77, 3) := by decide +kernel
theorem dX5_ship_94 : decode cX5_ship 94 = .ok (.aload_n 0, 1) := by decide +kernel
theorem dX5_ship_95 : decode cX5_ship 95 = .ok (.getfield 77, 3) := by decide +kernel
theorem dX5_ship_98 : decode cX5_ship 98 = .ok (.ifCond .le 4, 3) := by decide +kernel
theorem dX5_ship_101 : decode cX5_ship 101 = .ok (.return_, 1) := by decide +kernel
theorem dX5_ship_102 : decode cX5_ship 102 = .ok (.aload_n 0, 1) := by decide +kernel
theorem dX5_ship_103 : decode cX5_ship 103 = .ok (.getfield 50, 3) := by decide +kernel
theorem dX5_ship_106 : decode cX5_ship 106 = .ok (.iload_n 1, 1) := by decide +kernel
theorem dX5_ship_107 : decode cX5_ship 107 = .ok (.iconst (-1), 1) := by decide +kernel
theorem dX5_ship_108 : decode cX5_ship 108 = .ok (.iastore, 1) := by decide +kernel
theorem dX5_ship_109 : decode cX5_ship 109 = .ok (.aload_n 0, 1) := by decide +kernel
theorem dX5_ship_110 : decode cX5_ship 110 = .ok (.getfield 53, 3) := by decide +kernel
theorem dX5_ship_113 : decode cX5_ship 113 = .ok (.iload_n 1, 1) := by decide +kernel
theorem dX5_ship_114 : decode cX5_ship 114 = .ok (.iload_n 2, 1) := by decide +kernel
theorem dX5_ship_115 : decode cX5_ship 115 = .ok (.iastore, 1) := by decide +kernel
theorem dX5_ship_116 : decode cX5_ship 116 = .ok (.aload_n 0, 1) := by decide +kernel
theorem dX5_ship_117 : decode cX5_ship 117 = .ok (.getfield 56, 3) := by decide +kernel
theorem dX5_ship_120 : decode cX5_ship 120 = .ok (.iload_n 1, 1) := by decide +kernel
theorem dX5_ship_121 : decode cX5_ship 121 = .ok (.iload_n 3, 1) := by decide +kernel
theorem dX5_ship_122 : decode cX5_ship 122 = .ok (.iastore, 1) := by decide +kernel
theorem dX5_ship_123 : decode cX5_ship 123 = .ok (.aload_n 0, 1) := by decide +kernel
theorem dX5_ship_124 : decode cX5_ship 124 = .ok (.aload_n 0, 1) := by decide +kernel
theorem dX5_ship_125 : decode cX5_ship 125 = .ok (.getfield 47, 3) := by decide +kernel
theorem dX5_ship_128 : decode cX5_ship 128 = .ok (.iload_n 1, 1) := by decide +kernel
theorem dX5_ship_129 : decode cX5_ship 129 = .ok (.iaload, 1) := by decide +kernel
theorem dX5_ship_130 : decode cX5_ship 130 = .ok (.bipush 11, 2) := by decide +kernel
theorem dX5_ship_132 : decode cX5_ship 132 = .ok (.iload_n 1, 1) := by decide +kernel
theorem dX5_ship_133 : decode cX5_ship 133 = .ok (.invokevirtual 96, 3) := by decide +kernel
theorem dX5_ship_136 : decode cX5_ship 136 = .ok (.return_, 1) := by decide +kernel
theorem dX5_recall_0 : decode cX5_recall 0 = .ok (.aload_n 0, 1) := by decide +kernel
theorem dX5_recall_1 : decode cX5_recall 1 = .ok (.aload_n 0, 1) := by decide +kernel
theorem dX5_recall_2 : decode cX5_recall 2 = .ok (.iload_n 1, 1) := by decide +kernel
theorem dX5_recall_3 : decode cX5_recall 3 = .ok (.invokevirtual 100, 3) := by decide +kernel
theorem dX5_recall_6 : decode cX5_recall 6 = .ok (.ifCond .ne 7, 3) := by decide +kernel
theorem dX5_recall_9 : decode cX5_recall 9 = .ok (.iconst 1, 1) := by decide +kernel
theorem dX5_recall_10 : decode cX5_recall 10 = .ok (.goto 12, 3) := by decide +kernel
theorem dX5_recall_13 : decode cX5_recall 13 = .ok (.iload_n 2, 1) := by decide +kernel
theorem dX5_recall_14 : decode cX5_recall 14 = .ok (.ifCond .ge 7, 3) := by decide +kernel
theorem dX5_recall_17 : decode cX5_recall 17 = .ok (.iconst 2, 1) := by decide +kernel
theorem dX5_recall_18 : decode cX5_recall 18 = .ok (.goto 4, 3) := by decide +kernel
theorem dX5_recall_21 : decode cX5_recall 21 = .ok (.iconst 0, 1) := by decide +kernel
theorem dX5_recall_22 : decode cX5_recall 22 = .ok (.putfield 77, 3) := by decide +kernel
theorem dX5_recall_25 : decode cX5_recall 25 = .ok (.aload_n 0, 1) := by decide +kernel
theorem dX5_recall_26 : decode cX5_recall 26 = .ok (.getfield 77, 3) := by decide +kernel
theorem dX5_recall_29 : decode cX5_recall 29 = .ok (.ifCond .le 5, 3) := by decide +kernel
theorem dX5_recall_32 : decode cX5_recall 32 = .ok (.iconst 0, 1) := by decide +kernel
theorem dX5_recall_33 : decode cX5_recall 33 = .ok (.ireturn, 1) := by decide +kernel
theorem dX5_recall_34 : decode cX5_recall 34 = .ok (.aload_n 0, 1) := by decide +kernel
theorem dX5_recall_35 : decode cX5_recall 35 = .ok (.iload_n 1, 1) := by decide +kernel
theorem dX5_recall_36 : decode cX5_recall 36 = .ok (.invokevirtual 133, 3) := by decide +kernel
theorem dX5_recall_39 : decode cX5_recall 39 = .ok (.iload_n 2, 1) := by decide +kernel
theorem dX5_recall_40 : decode cX5_recall 40 = .ok (.istore_n 3, 1) := by decide +kernel
theorem dX5_recall_41 : decode cX5_recall 41 = .ok (.iconst 1, 1) := by decide +kernel
theorem dX5_recall_42 : decode cX5_recall 42 = .ok (.istore 4, 2) := by decide +kernel
theorem dX5_recall_44 : decode cX5_recall 44 = .ok (.iload 4, 2) := by decide +kernel
theorem dX5_recall_46 : decode cX5_recall 46 = .ok (.aload_n 0, 1) := by decide +kernel
theorem dX5_recall_47 : decode cX5_recall 47 = .ok (.getfield 121, 3) := by decide +kernel
theorem dX5_recall_50 : decode cX5_recall 50 = .ok (.if_icmp .gt 86, 3) := by decide +kernel
theorem dX5_recall_53 : decode cX5_recall 53 = .ok (.iconst 0, 1) := by decide +kernel
theorem dX5_recall_54 : decode cX5_recall 54 = .ok (.istore 5, 2) := by decide +kernel
theorem dX5_recall_56 : decode cX5_recall 56 = .ok (.iconst 1, 1) := by decide +kernel
theorem dX5_recall_57 : decode cX5_recall 57 = .ok (.istore 6, 2) := by decide +kernel
theorem dX5_recall_59 : decode cX5_recall 59 = .ok (.iload 6, 2) := by decide +kernel
theorem dX5_recall_61 : decode cX5_recall 61 = .ok (.aload_n 0, 1) := by decide +kernel
theorem dX5_recall_62 : decode cX5_recall 62 = .ok (.getfield 81, 3) := by decide +kernel
theorem dX5_recall_65 : decode cX5_recall 65 = .ok (.if_icmp .gt 47, 3) := by decide +kernel
theorem dX5_recall_68 : decode cX5_recall 68 = .ok (.iload 5, 2) := by decide +kernel
theorem dX5_recall_70 : decode cX5_recall 70 = .ok (.ifCond .ne 29, 3) := by decide +kernel
theorem dX5_recall_73 : decode cX5_recall 73 = .ok (.aload_n 0, 1) := by decide +kernel
theorem dX5_recall_74 : decode cX5_recall 74 = .ok (.getfield 74, 3) := by decide +kernel
theorem dX5_recall_77 : decode cX5_recall 77 = .ok (.iload 6, 2) := by decide +kernel
theorem dX5_recall_79 : decode cX5_recall 79 = .ok (.baload, 1) := by decide +kernel
theorem dX5_recall_80 : decode cX5_recall 80 = .ok (.ifCond .eq 23, 3) := by decide +kernel
theorem dX5_recall_83 : decode cX5_recall 83 = .ok (.aload_n 0, 1) := by decide +kernel
theorem dX5_recall_84 : decode cX5_recall 84 = .ok (.getfield 59, 3) := by decide +kernel
theorem dX5_recall_87 : decode cX5_recall 87 = .ok (.bipush 41, 2) := by decide +kernel
theorem dX5_recall_89 : decode cX5_recall 89 = .ok (.iload 4, 2) := by decide +kernel
theorem dX5_recall_91 : decode cX5_recall 91 = .ok (.imul, 1) := by decide +kernel
theorem dX5_recall_92 : decode cX5_recall 92 = .ok (.iload 6, 2) := by decide +kernel
theorem dX5_recall_94 : decode cX5_recall 94 = .ok (.iadd, 1) := by decide +kernel
theorem dX5_recall_95 : decode cX5_recall 95 = .ok (.baload, 1) := by decide +kernel
theorem dX5_recall_96 : decode cX5_recall 96 = .ok (.ifCond .eq 7, 3) := by decide +kernel
theorem dX5_recall_99 : decode cX5_recall 99 = .ok (.iconst 1, 1) := by decide +kernel
theorem dX5_recall_100 : decode cX5_recall 100 = .ok (.goto 4, 3) := by decide +kernel
theorem dX5_recall_103 : decode cX5_recall 103 = .ok (.iconst 0, 1) := by decide +kernel
theorem dX5_recall_104 : decode cX5_recall 104 = .ok (.istore 5, 2) := by decide +kernel
theorem dX5_recall_106 : decode cX5_recall 106 = .ok (.iinc 6 1, 3) := by decide +kernel
theorem dX5_recall_109 : decode cX5_recall 109 = .ok (.goto (-50), 3) := by decide +kernel
theorem dX5_recall_112 : decode cX5_recall 112 = .ok (.iload 5, 2) := by decide +kernel
theorem dX5_recall_114 : decode cX5_recall 114 = .ok (.ifCond .ne 6, 3) := by decide +kernel
theorem dX5_recall_117 : decode cX5_recall 117 = .ok (.goto 13, 3) := by decide +kernel
theorem dX5_recall_120 : decode cX5_recall 120 = .ok (.iload_n 3, 1) := by decide +kernel
theorem dX5_recall_121 : decode cX5_recall 121 = .ok (.ifCond .ne 6, 3) := by decide +kernel
theorem dX5_recall_124 : decode cX5_recall 124 = .ok (.iload 4, 2) := by decide +kernel
theorem dX5_recall_126 : decode cX5_recall 126 = .ok (.ireturn, 1) := by decide +kernel
theorem dX5_recall_127 : decode cX5_recall 127 = .ok (.iinc 3 (-1), 3) := by decide +kernel
theorem dX5_recall_130 : decode cX5_recall 130 = .ok (.iinc 4 1, 3) := by decide +kernel
theorem dX5_recall_133 : decode cX5_recall 133 = .ok (.goto (-89), 3) := by decide +kernel
theorem dX5_recall_136 : decode cX5_recall 136 = .ok (.iconst (-1), 1) := by decide +kernel
theorem dX5_recall_137 : decode cX5_recall 137 = .ok (.ireturn, 1) := by decide +kernel
theorem dX5_findFamily_0 : decode cX5_findFamily 0 = .ok (.iconst 1, 1) := by decide +kernel
theorem dX5_findFamily_1 : decode cX5_findFamily 1 = .ok (.istore_n 2, 1) := by decide +kernel
theorem dX5_findFamily_2 : decode cX5_findFamily 2 = .ok (.iload_n 2, 1) := by decide +kernel
theorem dX5_findFamily_3 : decode cX5_findFamily 3 = .ok (.aload_n 0, 1) := by decide +kernel
theorem dX5_findFamily_4 : decode cX5_findFamily 4 = .ok (.getfield 81, 3) := by decide +kernel
theorem dX5_findFamily_7 : decode cX5_findFamily 7 = .ok (.if_icmp .gt 25, 3) := by decide +kernel
theorem dX5_findFamily_10 : decode cX5_findFamily 10 = .ok (.aload_n 0, 1) := by decide +kernel
theorem dX5_findFamily_11 : decode cX5_findFamily 11 = .ok (.getfield 74, 3) := by decide +kernel
theorem dX5_findFamily_14 : decode cX5_findFamily 14 = .ok (.iload_n 2, 1) := by decide +kernel
theorem dX5_findFamily_15 : decode cX5_findFamily 15 = .ok (.iload_n 2, 1) := by decide +kernel
theorem dX5_findFamily_16 : decode cX5_findFamily 16 = .ok (.iload_n 1, 1) := by decide +kernel
theorem dX5_findFamily_17 : decode cX5_findFamily 17 = .ok (.if_icmp .ne 7, 3) := by decide +kernel
theorem dX5_findFamily_20 : decode cX5_findFamily 20 = .ok (.iconst 1, 1) := by decide +kernel
theorem dX5_findFamily_21 : decode cX5_findFamily 21 = .ok (.goto 4, 3) := by decide +kernel
theorem dX5_findFamily_24 : decode cX5_findFamily 24 = .ok (.iconst 0, 1) := by decide +kernel
theorem dX5_findFamily_25 : decode cX5_findFamily 25 = .ok (.bastore, 1) := by decide +kernel
theorem dX5_findFamily_26 : decode cX5_findFamily 26 = .ok (.iinc 2 1, 3) := by decide +kernel
theorem dX5_findFamily_29 : decode cX5_findFamily 29 = .ok (.goto (-27), 3) := by decide +kernel
theorem dX5_findFamily_32 : decode cX5_findFamily 32 = .ok (.iconst 1, 1) := by decide +kernel
theorem dX5_findFamily_33 : decode cX5_findFamily 33 = .ok (.istore_n 2, 1) := by decide +kernel
theorem dX5_findFamily_34 : decode cX5_findFamily 34 = .ok (.iload_n 2, 1) := by decide +kernel
theorem dX5_findFamily_35 : decode cX5_findFamily 35 = .ok (.ifCond .eq 91, 3) := by decide +kernel
theorem dX5_findFamily_38 : decode cX5_findFamily 38 = .ok (.iconst 0, 1) := by decide +kernel
theorem dX5_findFamily_39 : decode cX5_findFamily 39 = .ok (.istore_n 2, 1) := by decide +kernel
theorem dX5_findFamily_40 : decode cX5_findFamily 40 = .ok (.iconst 1, 1) := by decide +kernel
theorem dX5_findFamily_41 : decode cX5_findFamily 41 = .ok (.istore_n 3, 1) := by decide +kernel
theorem dX5_findFamily_42 : decode cX5_findFamily 42 = .ok (.iload_n 3, 1) := by decide +kernel
theorem dX5_findFamily_43 : decode cX5_findFamily 43 = .ok (.aload_n 0, 1) := by decide +kernel
theorem dX5_findFamily_44 : decode cX5_findFamily 44 = .ok (.getfield 81, 3) := by decide +kernel
theorem dX5_findFamily_47 : decode cX5_findFamily 47 = .ok (.if_icmp .gt 76, 3) := by decide +kernel
theorem dX5_findFamily_50 : decode cX5_findFamily 50 = .ok (.aload_n 0, 1) := by decide +kernel
theorem dX5_findFamily_51 : decode cX5_findFamily 51 = .ok (.getfield 74, 3) := by decide +kernel
theorem dX5_findFamily_54 : decode cX5_findFamily 54 = .ok (.iload_n 3, 1) := by decide +kernel
theorem dX5_findFamily_55 : decode cX5_findFamily 55 = .ok (.baload, 1) := by decide +kernel
theorem dX5_findFamily_56 : decode cX5_findFamily 56 = .ok (.ifCond .ne 61, 3) := by decide +kernel
theorem dX5_findFamily_59 : decode cX5_findFamily 59 = .ok (.aload_n 0, 1) := by decide +kernel
theorem dX5_findFamily_60 : decode cX5_findFamily 60 = .ok (.getfield 22, 3) := by decide +kernel
theorem dX5_findFamily_63 : decode cX5_findFamily 63 = .ok (.iload_n 3, 1) := by decide +kernel
theorem dX5_findFamily_64 : decode cX5_findFamily 64 = .ok (.iaload, 1) := by decide +kernel
theorem dX5_findFamily_65 : decode cX5_findFamily 65 = .ok (.ifCond .le 17, 3) := by decide +kernel
theorem dX5_findFamily_68 : decode cX5_findFamily 68 = .ok (.aload_n 0, 1) := by decide +kernel
theorem dX5_findFamily_69 : decode cX5_findFamily 69 = .ok (.getfield 74, 3) := by decide +kernel
theorem dX5_findFamily_72 : decode cX5_findFamily 72 = .ok (.aload_n 0, 1) := by decide +kernel
theorem dX5_findFamily_73 : decode cX5_findFamily 73 = .ok (.getfield 22, 3) := by decide +kernel
theorem dX5_findFamily_76 : decode cX5_findFamily 76 = .ok (.iload_n 3, 1) := by decide +kernel
theorem dX5_findFamily_77 : decode cX5_findFamily 77 = .ok (.iaload, 1) := by decide +kernel
theorem dX5_findFamily_78 : decode cX5_findFamily 78 = .ok (.baload, 1) := by decide +kernel
theorem dX5_findFamily_79 : decode cX5_findFamily 79 = .ok (.ifCond .ne 29, 3) := by decide +kernel
theorem dX5_findFamily_82 : decode cX5_findFamily 82 = .ok (.aload_n 0, 1) := by decide +kernel
theorem dX5_findFamily_83 : decode cX5_findFamily 83 = .ok (.getfield 25, 3) := by decide +kernel
theorem dX5_findFamily_86 : decode cX5_findFamily 86 = .ok (.iload_n 3, 1) := by decide +kernel
theorem dX5_findFamily_87 : decode cX5_findFamily 87 = .ok (.iaload, 1) := by decide +kernel
theorem dX5_findFamily_88 : decode cX5_findFamily 88 = .ok (.ifCond .le 29, 3) := by decide +kernel
theorem dX5_findFamily_91 : decode cX5_findFamily 91 = .ok (.aload_n 0, 1) := by decide +kernel
theorem dX5_findFamily_92 : decode cX5_findFamily 92 = .ok (.getfield 74, 3) := by decide +kernel
theorem dX5_findFamily_95 : decode cX5_findFamily 95 = .ok (.aload_n 0, 1) := by decide +kernel
theorem dX5_findFamily_96 : decode cX5_findFamily 96 = .ok (.getfield 25, 3) := by decide +kernel
theorem dX5_findFamily_99 : decode cX5_findFamily 99 = .ok (.iload_n 3, 1) := by decide +kernel
theorem dX5_findFamily_100 : decode cX5_findFamily 100 = .ok (.iaload, 1) := by decide +kernel
theorem dX5_findFamily_101 : decode cX5_findFamily 101 = .ok (.baload, 1) := by decide +kernel
theorem dX5_findFamily_102 : decode cX5_findFamily 102 = .ok (.ifCond .ne 6, 3) := by decide +kernel
theorem dX5_findFamily_105 : decode cX5_findFamily 105 = .ok (.goto 12, 3) := by decide +kernel
theorem dX5_findFamily_108 : decode cX5_findFamily 108 = .ok (.aload_n 0, 1) := by decide +kernel
theorem dX5_findFamily_109 : decode cX5_findFamily 109 = .ok (.getfield 74, 3) := by decide +kernel
theorem dX5_findFamily_112 : decode cX5_findFamily 112 = .ok (.iload_n 3, 1) := by decide +kernel
theorem dX5_findFamily_113 : decode cX5_findFamily 113 = .ok (.iconst 1, 1) := by decide +kernel
theorem dX5_findFamily_114 : decode cX5_findFamily 114 = .ok (.bastore, 1) := by decide +kernel
theorem dX5_findFamily_115 : decode cX5_findFamily 115 = .ok (.iconst 1, 1) := by decide +kernel
theorem dX5_findFamily_116 : decode cX5_findFamily 116 = .ok (.istore_n 2, 1) := by decide +kernel
theorem dX5_findFamily_117 : decode cX5_findFamily 117 = .ok (.iinc 3 1, 3) := by decide +kernel
theorem dX5_findFamily_120 : decode cX5_findFamily 120 = .ok (.goto (-78), 3) := by decide +kernel
theorem dX5_findFamily_123 : decode cX5_findFamily 123 = .ok (.goto (-89), 3) := by decide +kernel
theorem dX5_findFamily_126 : decode cX5_findFamily 126 = .ok (.return_, 1) := by decide +kernel
theorem dX5_where_0 : decode cX5_where 0 = .ok (.aload_n 0, 1) := by decide +kernel
theorem dX5_where_1 : decode cX5_where 1 = .ok (.aload_n 0, 1) := by decide +kernel
theorem dX5_where_2 : decode cX5_where 2 = .ok (.iload_n 1, 1) := by decide +kernel
theorem dX5_where_3 : decode cX5_where 3 = .ok (.invokevirtual 124, 3) := by decide +kernel
theorem dX5_where_6 : decode cX5_where 6 = .ok (.ifCond .ne 7, 3) := by decide +kernel
theorem dX5_where_9 : decode cX5_where 9 = .ok (.iconst 1, 1) := by decide +kernel
theorem dX5_where_10 : decode cX5_where 10 = .ok (.goto 17, 3) := by decide +kernel
theorem dX5_where_13 : decode cX5_where 13 = .ok (.iload_n 2, 1) := by decide +kernel
theorem dX5_where_14 : decode cX5_where 14 = .ok (.iconst 0, 1) := by decide +kernel
theorem dX5_where_15 : decode cX5_where 15 = .ok (.iconst 3, 1) := by decide +kernel
theorem dX5_where_16 : decode cX5_where 16 = .ok (.invokestatic 84, 3) := by decide +kernel
theorem dX5_where_19 : decode cX5_where 19 = .ok (.ifCond .ne 7, 3) := by decide +kernel
theorem dX5_where_22 : decode cX5_where 22 = .ok (.iconst 2, 1) := by decide +kernel
theorem dX5_where_23 : decode cX5_where 23 = .ok (.goto 4, 3) := by decide +kernel
theorem dX5_where_26 : decode cX5_where 26 = .ok (.iconst 0, 1) := by decide +kernel
theorem dX5_where_27 : decode cX5_where 27 = .ok (.putfield 77, 3) := by decide +kernel
theorem dX5_where_30 : decode cX5_where 30 = .ok (.aload_n 0, 1) := by decide +kernel
theorem dX5_where_31 : decode cX5_where 31 = .ok (.getfield 77, 3) := by decide +kernel
theorem dX5_where_34 : decode cX5_where 34 = .ok (.ifCond .le 5, 3) := by decide +kernel
theorem dX5_where_37 : decode cX5_where 37 = .ok (.iconst 0, 1) := by decide +kernel
theorem dX5_where_38 : decode cX5_where 38 = .ok (.ireturn, 1) := by decide +kernel
theorem dX5_where_39 : decode cX5_where 39 = .ok (.iload_n 2, 1) := by decide +kernel
theorem dX5_where_40 : decode cX5_where 40 = .ok (.ifCond .ne 12, 3) := by decide +kernel
theorem dX5_where_43 : decode cX5_where 43 = .ok (.aload_n 0, 1) := by decide +kernel
theorem dX5_where_44 : decode cX5_where 44 = .ok (.getfield 47, 3) := by decide +kernel
theorem dX5_where_47 : decode cX5_where 47 = .ok (.iload_n 1, 1) := by decide +kernel
theorem dX5_where_48 : decode cX5_where 48 = .ok (.iaload, 1) := by decide +kernel
theorem dX5_where_49 : decode cX5_where 49 = .ok (.goto 37, 3) := by decide +kernel
theorem dX5_where_52 : decode cX5_where 52 = .ok (.iload_n 2, 1) := by decide +kernel
theorem dX5_where_53 : decode cX5_where 53 = .ok (.iconst 1, 1) := by decide +kernel
theorem dX5_where_54 : decode cX5_where 54 = .ok (.if_icmp .ne 12, 3) := by decide +kernel
theorem dX5_where_57 : decode cX5_where 57 = .ok (.aload_n 0, 1) := by decide +kernel
theorem dX5_where_58 : decode cX5_where 58 = .ok (.getfield 50, 3) := by decide +kernel
theorem dX5_where_61 : decode cX5_where 61 = .ok (.iload_n 1, 1) := by decide +kernel
theorem dX5_where_62 : decode cX5_where 62 = .ok (.iaload, 1) := by decide +kernel
theorem dX5_where_63 : decode cX5_where 63 = .ok (.goto 23, 3) := by decide +kernel
theorem dX5_where_66 : decode cX5_where 66 = .ok (.iload_n 2, 1) := by decide +kernel
theorem dX5_where_67 : decode cX5_where 67 = .ok (.iconst 2, 1) := by decide +kernel
theorem dX5_where_68 : decode cX5_where 68 = .ok (.if_icmp .ne 12, 3) := by decide +kernel
theorem dX5_where_71 : decode cX5_where 71 = .ok (.aload_n 0, 1) := by decide +kernel
theorem dX5_where_72 : decode cX5_where 72 = .ok (.getfield 53, 3) := by decide +kernel
theorem dX5_where_75 : decode cX5_where 75 = .ok (.iload_n 1, 1) := by decide +kernel
theorem dX5_where_76 : decode cX5_where 76 = .ok (.iaload, 1) := by decide +kernel
theorem dX5_where_77 : decode cX5_where 77 = .ok (.goto 9, 3) := by decide +kernel
theorem dX5_where_80 : decode cX5_where 80 = .ok (.aload_n 0, 1) := by decide +kernel
theorem dX5_where_81 : decode cX5_where 81 = .ok (.getfield 56, 3) := by decide +kernel
theorem dX5_where_84 : decode cX5_where 84 = .ok (.iload_n 1, 1) := by decide +kernel
theorem dX5_where_85 : decode cX5_where 85 = .ok (.iaload, 1) := by decide +kernel
theorem dX5_where_86 : decode cX5_where 86 = .ok (.ireturn, 1) := by decide +kernel
theorem dX5_history_0 : decode cX5_history 0 = .ok (.iconst (-1), 1) := by decide +kernel
theorem dX5_history_1 : decode cX5_history 1 = .ok (.istore 4, 2) := by decide +kernel
theorem dX5_history_3 : decode cX5_history 3 = .ok (.iload_n 2, 1) := by decide +kernel
theorem dX5_history_4 : decode cX5_history 4 = .ok (.istore 5, 2) := by decide +kernel
theorem dX5_history_6 : decode cX5_history 6 = .ok (.iconst 0, 1) := by decide +kernel
theorem dX5_history_7 : decode cX5_history 7 = .ok (.istore 6, 2) := by decide +kernel
theorem dX5_history_9 : decode cX5_history 9 = .ok (.iload 6, 2) := by decide +kernel
theorem dX5_history_11 : decode cX5_history 11 = .ok (.aload_n 0, 1) := by decide +kernel
theorem dX5_history_12 : decode cX5_history 12 = .ok (.getfield 88, 3) := by decide +kernel
theorem dX5_history_15 : decode cX5_history 15 = .ok (.if_icmp .ge 47, 3) := by decide +kernel
theorem dX5_history_18 : decode cX5_history 18 = .ok (.aload_n 0, 1) := by decide +kernel
theorem dX5_history_19 : decode cX5_history 19 = .ok (.iload_n 1, 1) := by decide +kernel
theorem dX5_history_20 : decode cX5_history 20 = .ok (.invokevirtual 100, 3) := by decide +kernel
theorem dX5_history_23 : decode cX5_history 23 = .ok (.ifCond .eq 39, 3) := by decide +kernel
theorem dX5_history_26 : decode cX5_history 26 = .ok (.iload_n 2, 1) := by decide +kernel
theorem dX5_history_27 : decode cX5_history 27 = .ok (.ifCond .lt 35, 3) := by decide +kernel
theorem dX5_history_30 : decode cX5_history 30 = .ok (.aload_n 0, 1) := by decide +kernel
theorem dX5_history_31 : decode cX5_history 31 = .ok (.getfield 62, 3) := by decide +kernel
theorem dX5_history_34 : decode cX5_history 34 = .ok (.iload 6, 2) := by decide +kernel
theorem dX5_history_36 : decode cX5_history 36 = .ok (.iaload, 1) := by decide +kernel
theorem dX5_history_37 : decode cX5_history 37 = .ok (.iload_n 1, 1) := by decide +kernel
theorem dX5_history_38 : decode cX5_history 38 = .ok (.if_icmp .eq 6, 3) := by decide +kernel
theorem dX5_history_41 : decode cX5_history 41 = .ok (.goto 15, 3) := by decide +kernel
theorem dX5_history_44 : decode cX5_history 44 = .ok (.iload 5, 2) := by decide +kernel
theorem dX5_history_46 : decode cX5_history 46 = .ok (.ifCond .ne 7, 3) := by decide +kernel
theorem dX5_history_49 : decode cX5_history 49 = .ok (.iload 6, 2) := by decide +kernel
theorem dX5_history_51 : decode cX5_history 51 = .ok (.istore 4, 2) := by decide +kernel
theorem dX5_history_53 : decode cX5_history 53 = .ok (.iinc 5 (-1), 3) := by decide +kernel
theorem dX5_history_56 : decode cX5_history 56 = .ok (.iinc 6 1, 3) := by decide +kernel
theorem dX5_history_59 : decode cX5_history 59 = .ok (.goto (-50), 3) := by decide +kernel
theorem dX5_history_62 : decode cX5_history 62 = .ok (.aload_n 0, 1) := by decide +kernel
theorem dX5_history_63 : decode cX5_history 63 = .ok (.iload 4, 2) := by decide +kernel
theorem dX5_history_65 : decode cX5_history 65 = .ok (.iconst (-1), 1) := by decide +kernel
theorem dX5_history_66 : decode cX5_history 66 = .ok (.if_icmp .ne 7, 3) := by decide +kernel
theorem dX5_history_69 : decode cX5_history 69 = .ok (.iconst 1, 1) := by decide +kernel
theorem dX5_history_70 : decode cX5_history 70 = .ok (.goto 17, 3) := by decide +kernel
theorem dX5_history_73 : decode cX5_history 73 = .ok (.iload_n 3, 1) := by decide +kernel
theorem dX5_history_74 : decode cX5_history 74 = .ok (.iconst 0, 1) := by decide +kernel
theorem dX5_history_75 : decode cX5_history 75 = .ok (.iconst 1, 1) := by decide +kernel
theorem dX5_history_76 : decode cX5_history 76 = .ok (.invokestatic 84, 3) := by decide +kernel
theorem dX5_history_79 : decode cX5_history 79 = .ok (.ifCond .ne 7, 3) := by decide +kernel
theorem dX5_history_82 : decode cX5_history 82 = .ok (.iconst 2, 1) := by decide +kernel
theorem dX5_history_83 : decode cX5_history 83 = .ok (.goto 4, 3) := by decide +kernel
theorem dX5_history_86 : decode cX5_history 86 = .ok (.iconst 0, 1) := by decide +kernel
theorem dX5_history_87 : decode cX5_history 87 = .ok (.putfield 77, 3) := by decide +kernel
theorem dX5_history_90 : decode cX5_history 90 = .ok (.aload_n 0, 1) := by decide +kernel
theorem dX5_history_91 : decode cX5_history 91 = .ok (.getfield 77, 3) := by decide +kernel
theorem dX5_history_94 : decode cX5_history 94 = .ok (.ifCond .le 5, 3) := by decide +kernel
theorem dX5_history_97 : decode cX5_history 97 = .ok (.iconst 0, 1) := by decide +kernel
theorem dX5_history_98 : decode cX5_history 98 = .ok (.ireturn, 1) := by decide +kernel
theorem dX5_history_99 : decode cX5_history 99 = .ok (.iload_n 3, 1) := by decide +kernel
theorem dX5_history_100 : decode cX5_history 100 = .ok (.ifCond .ne 13, 3) := by decide +kernel
theorem dX5_history_103 : decode cX5_history 103 = .ok (.aload_n 0, 1) := by decide +kernel
theorem dX5_history_104 : decode cX5_history 104 = .ok (.getfield 65, 3) := by decide +kernel
theorem dX5_history_107 : decode cX5_history 107 = .ok (.iload 4, 2) := by decide +kernel
theorem dX5_history_109 : decode cX5_history 109 = .ok (.iaload, 1) := by decide +kernel
theorem dX5_history_110 : decode cX5_history 110 = .ok (.goto 10, 3) := by decide +kernel
theorem dX5_history_113 : decode cX5_history 113 = .ok (.aload_n 0, 1) := by decide +kernel
theorem dX5_history_114 : decode cX5_history 114 = .ok (.getfield 68, 3) := by decide +kernel
theorem dX5_history_117 : decode cX5_history 117 = .ok (.iload 4, 2) := by decide +kernel
theorem dX5_history_119 : decode cX5_history 119 = .ok (.iaload, 1) := by decide +kernel
theorem dX5_history_120 : decode cX5_history 120 = .ok (.ireturn, 1) := by decide +kernel
theorem dX5_told_0 : decode cX5_told 0 = .ok (.aload_n 0, 1) := by decide +kernel
theorem dX5_told_1 : decode cX5_told 1 = .ok (.aload_n 0, 1) := by decide +kernel
theorem dX5_told_2 : decode cX5_told 2 = .ok (.iload_n 1, 1) := by decide +kernel
theorem dX5_told_3 : decode cX5_told 3 = .ok (.invokevirtual 100, 3) := by decide +kernel
theorem dX5_told_6 : decode cX5_told 6 = .ok (.ifCond .ne 7, 3) := by decide +kernel
theorem dX5_told_9 : decode cX5_told 9 = .ok (.iconst 1, 1) := by decide +kernel
theorem dX5_told_10 : decode cX5_told 10 = .ok (.goto 18, 3) := by decide +kernel
theorem dX5_told_13 : decode cX5_told 13 = .ok (.iload_n 2, 1) := by decide +kernel
theorem dX5_told_14 : decode cX5_told 14 = .ok (.iconst 0, 1) := by decide +kernel
theorem dX5_told_15 : decode cX5_told 15 = .ok (.bipush 7, 2) := by decide +kernel
theorem dX5_told_17 : decode cX5_told 17 = .ok (.invokestatic 84, 3) := by decide +kernel
theorem dX5_told_20 : decode cX5_told 20 = .ok (.ifCond .ne 7, 3) := by decide +kernel
theorem dX5_told_23 : decode cX5_told 23 = .ok (.iconst 2, 1) := by decide +kernel
theorem dX5_told_24 : decode cX5_told 24 = .ok (.goto 4, 3) := by decide +kernel
theorem dX5_told_27 : decode cX5_told 27 = .ok (.iconst 0, 1) := by decide +kernel
theorem dX5_told_28 : decode cX5_told 28 = .ok (.putfield 77, 3) := by decide +kernel
theorem dX5_told_31 : decode cX5_told 31 = .ok (.aload_n 0, 1) := by decide +kernel
theorem dX5_told_32 : decode cX5_told 32 = .ok (.getfield 77, 3) := by decide +kernel
theorem dX5_told_35 : decode cX5_told 35 = .ok (.ifCond .le 5, 3) := by decide +kernel
theorem dX5_told_38 : decode cX5_told 38 = .ok (.iconst 0, 1) := by decide +kernel
theorem dX5_told_39 : decode cX5_told 39 = .ok (.ireturn, 1) := by decide +kernel
theorem dX5_told_40 : decode cX5_told 40 = .ok (.iload_n 2, 1) := by decide +kernel
theorem dX5_told_41 : decode cX5_told 41 = .ok (.ifCond .ne 10, 3) := by decide +kernel
theorem dX5_told_44 : decode cX5_told 44 = .ok (.aload_n 0, 1) := by decide +kernel
theorem dX5_told_45 : decode cX5_told 45 = .ok (.getfield 7, 3) := by decide +kernel
theorem dX5_told_48 : decode cX5_told 48 = .ok (.iload_n 1, 1) := by decide +kernel
theorem dX5_told_49 : decode cX5_told 49 = .ok (.iaload, 1) := by decide +kernel
theorem dX5_told_50 : decode cX5_told 50 = .ok (.ireturn, 1) := by decide +kernel
theorem dX5_told_51 : decode cX5_told 51 = .ok (.iload_n 2, 1) := by decide +kernel
theorem dX5_told_52 : decode cX5_told 52 = .ok (.iconst 1, 1) := by decide +kernel
theorem dX5_told_53 : decode cX5_told 53 = .ok (.if_icmp .ne 10, 3) := by decide +kernel
theorem dX5_told_56 : decode cX5_told 56 = .ok (.aload_n 0, 1) := by decide +kernel
theorem dX5_told_57 : decode cX5_told 57 = .ok (.getfield 13, 3) := by decide +kernel
theorem dX5_told_60 : decode cX5_told 60 = .ok (.iload_n 1, 1) := by decide +kernel
theorem dX5_told_61 : decode cX5_told 61 = .ok (.iaload, 1) := by decide +kernel
theorem dX5_told_62 : decode cX5_told 62 = .ok (.ireturn, 1) := by decide +kernel
theorem dX5_told_63 : decode cX5_told 63 = .ok (.iload_n 2, 1) := by decide +kernel
theorem dX5_told_64 : decode cX5_told 64 = .ok (.iconst 2, 1) := by decide +kernel
theorem dX5_told_65 : decode cX5_told 65 = .ok (.if_icmp .ne 10, 3) := by decide +kernel
theorem dX5_told_68 : decode cX5_told 68 = .ok (.aload_n 0, 1) := by decide +kernel
theorem dX5_told_69 : decode cX5_told 69 = .ok (.getfield 16, 3) := by decide +kernel
theorem dX5_told_72 : decode cX5_told 72 = .ok (.iload_n 1, 1) := by decide +kernel
theorem dX5_told_73 : decode cX5_told 73 = .ok (.iaload, 1) := by decide +kernel
theorem dX5_told_74 : decode cX5_told 74 = .ok (.ireturn, 1) := by decide +kernel
theorem dX5_told_75 : decode cX5_told 75 = .ok (.iload_n 2, 1) := by decide +kernel
theorem dX5_told_76 : decode cX5_told 76 = .ok (.iconst 3, 1) := by decide +kernel
theorem dX5_told_77 : decode cX5_told 77 = .ok (.if_icmp .ne 10, 3) := by decide +kernel
theorem dX5_told_80 : decode cX5_told 80 = .ok (.aload_n 0, 1) := by decide +kernel
theorem dX5_told_81 : decode cX5_told 81 = .ok (.getfield 19, 3) := by decide +kernel
theorem dX5_told_84 : decode cX5_told 84 = .ok (.iload_n 1, 1) := by decide +kernel
theorem dX5_told_85 : decode cX5_told 85 = .ok (.iaload, 1) := by decide +kernel
theorem dX5_told_86 : decode cX5_told 86 = .ok (.ireturn, 1) := by decide +kernel
theorem dX5_told_87 : decode cX5_told 87 = .ok (.iload_n 2, 1) := by decide +kernel
theorem dX5_told_88 : decode cX5_told 88 = .ok (.iconst 4, 1) := by decide +kernel
theorem dX5_told_89 : decode cX5_told 89 = .ok (.if_icmp .ne 17, 3) := by decide +kernel
theorem dX5_told_92 : decode cX5_told 92 = .ok (.aload_n 0, 1) := by decide +kernel
theorem dX5_told_93 : decode cX5_told 93 = .ok (.iload_n 1, 1) := by decide +kernel
theorem dX5_told_94 : decode cX5_told 94 = .ok (.invokevirtual 104, 3) := by decide +kernel
theorem dX5_told_97 : decode cX5_told 97 = .ok (.ifCond .eq 7, 3) := by decide +kernel
theorem dX5_told_100 : decode cX5_told 100 = .ok (.iconst 1, 1) := by decide +kernel
theorem dX5_told_101 : decode cX5_told 101 = .ok (.goto 4, 3) := by decide +kernel
theorem dX5_told_104 : decode cX5_told 104 = .ok (.iconst 0, 1) := by decide +kernel
theorem dX5_told_105 : decode cX5_told 105 = .ok (.ireturn, 1) := by decide +kernel
theorem dX5_told_106 : decode cX5_told 106 = .ok (.iload_n 2, 1) := by decide +kernel
theorem dX5_told_107 : decode cX5_told 107 = .ok (.iconst 5, 1) := by decide +kernel
theorem dX5_told_108 : decode cX5_told 108 = .ok (.if_icmp .ne 10, 3) := by decide +kernel
theorem dX5_told_111 : decode cX5_told 111 = .ok (.aload_n 0, 1) := by decide +kernel
theorem dX5_told_112 : decode cX5_told 112 = .ok (.getfield 28, 3) := by decide +kernel
theorem dX5_told_115 : decode cX5_told 115 = .ok (.iload_n 1, 1) := by decide +kernel
theorem dX5_told_116 : decode cX5_told 116 = .ok (.iaload, 1) := by decide +kernel
theorem dX5_told_117 : decode cX5_told 117 = .ok (.ireturn, 1) := by decide +kernel
theorem dX5_told_118 : decode cX5_told 118 = .ok (.iload_n 2, 1) := by decide +kernel
theorem dX5_told_119 : decode cX5_told 119 = .ok (.bipush 6, 2) := by decide +kernel
theorem dX5_told_121 : decode cX5_told 121 = .ok (.if_icmp .ne 18, 3) := by decide +kernel
theorem dX5_told_124 : decode cX5_told 124 = .ok (.aload_n 0, 1) := by decide +kernel
theorem dX5_told_125 : decode cX5_told 125 = .ok (.getfield 31, 3) := by decide +kernel
theorem dX5_told_128 : decode cX5_told 128 = .ok (.iload_n 1, 1) := by decide +kernel
theorem dX5_told_129 : decode cX5_told 129 = .ok (.baload, 1) := by decide +kernel
theorem dX5_told_130 : decode cX5_told 130 = .ok (.ifCond .eq 7, 3) := by decide +kernel
theorem dX5_told_133 : decode cX5_told 133 = .ok (.iconst 1, 1) := by decide +kernel
theorem dX5_told_134 : decode cX5_told 134 = .ok (.goto 4, 3) := by decide +kernel
theorem dX5_told_137 : decode cX5_told 137 = .ok (.iconst 0, 1) := by decide +kernel
theorem dX5_told_138 : decode cX5_told 138 = .ok (.ireturn, 1) := by decide +kernel
theorem dX5_told_139 : decode cX5_told 139 = .ok (.iconst 0, 1) := by decide +kernel
theorem dX5_told_140 : decode cX5_told 140 = .ok (.istore_n 3, 1) := by decide +kernel
theorem dX5_told_141 : decode cX5_told 141 = .ok (.iconst 1, 1) := by decide +kernel
theorem dX5_told_142 : decode cX5_told 142 = .ok (.istore 4, 2) := by decide +kernel
theorem dX5_told_144 : decode cX5_told 144 = .ok (.iload 4, 2) := by decide +kernel
theorem dX5_told_146 : decode cX5_told 146 = .ok (.aload_n 0, 1) := by decide +kernel
theorem dX5_told_147 : decode cX5_told 147 = .ok (.getfield 121, 3) := by decide +kernel
theorem dX5_told_150 : decode cX5_told 150 = .ok (.if_icmp .gt 37, 3) := by decide +kernel
theorem dX5_told_153 : decode cX5_told 153 = .ok (.iload_n 3, 1) := by decide +kernel
theorem dX5_told_154 : decode cX5_told 154 = .ok (.aload_n 0, 1) := by decide +kernel
theorem dX5_told_155 : decode cX5_told 155 = .ok (.getfield 47, 3) := by decide +kernel
theorem dX5_told_158 : decode cX5_told 158 = .ok (.iload 4, 2) := by decide +kernel
theorem dX5_told_160 : decode cX5_told 160 = .ok (.iaload, 1) := by decide +kernel
theorem dX5_told_161 : decode cX5_told 161 = .ok (.iload_n 1, 1) := by decide +kernel
theorem dX5_told_162 : decode cX5_told 162 = .ok (.if_icmp .ne 16, 3) := by decide +kernel
theorem dX5_told_165 : decode cX5_told 165 = .ok (.aload_n 0, 1) := by decide +kernel
theorem dX5_told_166 : decode cX5_told 166 = .ok (.iload 4, 2) := by decide +kernel
theorem dX5_told_168 : decode cX5_told 168 = .ok (.invokevirtual 127, 3) := by decide +kernel
theorem dX5_told_171 : decode cX5_told 171 = .ok (.ifCond .ne 7, 3) := by decide +kernel
theorem dX5_told_174 : decode cX5_told 174 = .ok (.iconst 1, 1) := by decide +kernel
theorem dX5_told_175 : decode cX5_told 175 = .ok (.goto 4, 3) := by decide +kernel
theorem dX5_told_178 : decode cX5_told 178 = .ok (.iconst 0, 1) := by decide +kernel
theorem dX5_told_179 : decode cX5_told 179 = .ok (.iadd, 1) := by decide +kernel
theorem dX5_told_180 : decode cX5_told 180 = .ok (.istore_n 3, 1) := by decide +kernel
theorem dX5_told_181 : decode cX5_told 181 = .ok (.iinc 4 1, 3) := by decide +kernel
theorem dX5_told_184 : decode cX5_told 184 = .ok (.goto (-40), 3) := by decide +kernel
theorem dX5_told_187 : decode cX5_told 187 = .ok (.iload_n 3, 1) := by decide +kernel
theorem dX5_told_188 : decode cX5_told 188 = .ok (.ireturn, 1) := by decide +kernel
theorem dX5_day_0 : decode cX5_day 0 = .ok (.aload_n 0, 1) := by decide +kernel
theorem dX5_day_1 : decode cX5_day 1 = .ok (.iload_n 1, 1) := by decide +kernel
theorem dX5_day_2 : decode cX5_day 2 = .ok (.iconst 0, 1) := by decide +kernel
theorem dX5_day_3 : decode cX5_day 3 = .ok (.iconst 2, 1) := by decide +kernel
theorem dX5_day_4 : decode cX5_day 4 = .ok (.invokestatic 84, 3) := by decide +kernel
theorem dX5_day_7 : decode cX5_day 7 = .ok (.ifCond .eq 23, 3) := by decide +kernel
theorem dX5_day_10 : decode cX5_day 10 = .ok (.iload_n 2, 1) := by decide +kernel
theorem dX5_day_11 : decode cX5_day 11 = .ok (.iconst 0, 1) := by decide +kernel
theorem dX5_day_12 : decode cX5_day 12 = .ok (.iload_n 1, 1) := by decide +kernel
theorem dX5_day_13 : decode cX5_day 13 = .ok (.iconst 2, 1) := by decide +kernel
theorem dX5_day_14 : decode cX5_day 14 = .ok (.if_icmp .ne 8, 3) := by decide +kernel
theorem dX5_day_17 : decode cX5_day 17 = .ok (.ldc 147, 2) := by decide +kernel
theorem dX5_day_19 : decode cX5_day 19 = .ok (.goto 5, 3) := by decide +kernel
theorem dX5_day_22 : decode cX5_day 22 = .ok (.ldc 148, 2) := by decide +kernel
theorem dX5_day_24 : decode cX5_day 24 = .ok (.invokestatic 84, 3) := by decide +kernel
theorem dX5_day_27 : decode cX5_day 27 = .ok (.ifCond .ne 7, 3) := by decide +kernel
theorem dX5_day_30 : decode cX5_day 30 = .ok (.iconst 1, 1) := by decide +kernel
theorem dX5_day_31 : decode cX5_day 31 = .ok (.goto 4, 3) := by decide +kernel
theorem dX5_day_34 : decode cX5_day 34 = .ok (.iconst 0, 1) := by decide +kernel
theorem dX5_day_35 : decode cX5_day 35 = .ok (.putfield 77, 3) := by decide +kernel
theorem dX5_day_38 : decode cX5_day 38 = .ok (.aload_n 0, 1) := by decide +kernel
theorem dX5_day_39 : decode cX5_day 39 = .ok (.getfield 77, 3) := by decide +kernel
theorem dX5_day_42 : decode cX5_day 42 = .ok (.ifCond .le 5, 3) := by decide +kernel
theorem dX5_day_45 : decode cX5_day 45 = .ok (.iconst 0, 1) := by decide +kernel
theorem dX5_day_46 : decode cX5_day 46 = .ok (.ireturn, 1) := by decide +kernel
theorem dX5_day_47 : decode cX5_day 47 = .ok (.iload_n 1, 1) := by decide +kernel
theorem dX5_day_48 : decode cX5_day 48 = .ok (.ifCond .ne 23, 3) := by decide +kernel
theorem dX5_day_51 : decode cX5_day 51 = .ok (.iload_n 2, 1) := by decide +kernel
theorem dX5_day_52 : decode cX5_day 52 = .ok (.sipush 10000, 3) := by decide +kernel
theorem dX5_day_55 : decode cX5_day 55 = .ok (.idiv, 1) := by decide +kernel
theorem dX5_day_56 : decode cX5_day 56 = .ok (.iload_n 2, 1) := by decide +kernel
theorem dX5_day_57 : decode cX5_day 57 = .ok (.bipush 100, 2) := by decide +kernel
theorem dX5_day_59 : decode cX5_day 59 = .ok (.idiv, 1) := by decide +kernel
theorem dX5_day_60 : decode cX5_day 60 = .ok (.bipush 100, 2) := by decide +kernel
theorem dX5_day_62 : decode cX5_day 62 = .ok (.irem, 1) := by decide +kernel
theorem dX5_day_63 : decode cX5_day 63 = .ok (.iload_n 2, 1) := by decide +kernel
theorem dX5_day_64 : decode cX5_day 64 = .ok (.bipush 100, 2) := by decide +kernel
theorem dX5_day_66 : decode cX5_day 66 = .ok (.irem, 1) := by decide +kernel
theorem dX5_day_67 : decode cX5_day 67 = .ok (.invokestatic 149, 3) := by decide +kernel
theorem dX5_day_70 : decode cX5_day 70 = .ok (.ireturn, 1) := by decide +kernel
theorem dX5_day_71 : decode cX5_day 71 = .ok (.iload_n 1, 1) := by decide +kernel
theorem dX5_day_72 : decode cX5_day 72 = .ok (.iconst 1, 1) := by decide +kernel
theorem dX5_day_73 : decode cX5_day 73 = .ok (.if_icmp .ne 23, 3) := by decide +kernel
theorem dX5_day_76 : decode cX5_day 76 = .ok (.iload_n 2, 1) := by decide +kernel
theorem dX5_day_77 : decode cX5_day 77 = .ok (.bipush 100, 2) := by decide +kernel
theorem dX5_day_79 : decode cX5_day 79 = .ok (.irem, 1) := by decide +kernel
theorem dX5_day_80 : decode cX5_day 80 = .ok (.iload_n 2, 1) := by decide +kernel
theorem dX5_day_81 : decode cX5_day 81 = .ok (.bipush 100, 2) := by decide +kernel
theorem dX5_day_83 : decode cX5_day 83 = .ok (.idiv, 1) := by decide +kernel
theorem dX5_day_84 : decode cX5_day 84 = .ok (.bipush 100, 2) := by decide +kernel
theorem dX5_day_86 : decode cX5_day 86 = .ok (.irem, 1) := by decide +kernel
theorem dX5_day_87 : decode cX5_day 87 = .ok (.iload_n 2, 1) := by decide +kernel
theorem dX5_day_88 : decode cX5_day 88 = .ok (.sipush 10000, 3) := by decide +kernel
theorem dX5_day_91 : decode cX5_day 91 = .ok (.idiv, 1) := by decide +kernel
theorem dX5_day_92 : decode cX5_day 92 = .ok (.invokestatic 149, 3) := by decide +kernel
theorem dX5_day_95 : decode cX5_day 95 = .ok (.ireturn, 1) := by decide +kernel
theorem dX5_day_96 : decode cX5_day 96 = .ok (.iload_n 2, 1) := by decide +kernel
theorem dX5_day_97 : decode cX5_day 97 = .ok (.sipush 1000, 3) := by decide +kernel
theorem dX5_day_100 : decode cX5_day 100 = .ok (.idiv, 1) := by decide +kernel
theorem dX5_day_101 : decode cX5_day 101 = .ok (.istore_n 3, 1) := by decide +kernel
theorem dX5_day_102 : decode cX5_day 102 = .ok (.iload_n 2, 1) := by decide +kernel
theorem dX5_day_103 : decode cX5_day 103 = .ok (.sipush 1000, 3) := by decide +kernel
theorem dX5_day_106 : decode cX5_day 106 = .ok (.irem, 1) := by decide +kernel
theorem dX5_day_107 : decode cX5_day 107 = .ok (.iconst 1, 1) := by decide +kernel
theorem dX5_day_108 : decode cX5_day 108 = .ok (.iload_n 3, 1) := by decide +kernel
theorem dX5_day_109 : decode cX5_day 109 = .ok (.invokestatic 137, 3) := by decide +kernel
theorem dX5_day_112 : decode cX5_day 112 = .ok (.invokestatic 84, 3) := by decide +kernel
theorem dX5_day_115 : decode cX5_day 115 = .ok (.ifCond .eq 18, 3) := by decide +kernel
theorem dX5_day_118 : decode cX5_day 118 = .ok (.iload_n 3, 1) := by decide +kernel
theorem dX5_day_119 : decode cX5_day 119 = .ok (.invokestatic 144, 3) := by decide +kernel
theorem dX5_day_122 : decode cX5_day 122 = .ok (.iload_n 2, 1) := by decide +kernel
theorem dX5_day_123 : decode cX5_day 123 = .ok (.sipush 1000, 3) := by decide +kernel
theorem dX5_day_126 : decode cX5_day 126 = .ok (.irem, 1) := by decide +kernel
theorem dX5_day_127 : decode cX5_day 127 = .ok (.iadd, 1) := by decide +kernel
theorem dX5_day_128 : decode cX5_day 128 = .ok (.iconst 1, 1) := by decide +kernel
theorem dX5_day_129 : decode cX5_day 129 = .ok (.isub, 1) := by decide +kernel
theorem dX5_day_130 : decode cX5_day 130 = .ok (.goto 4, 3) := by decide +kernel
theorem dX5_day_133 : decode cX5_day 133 = .ok (.iconst (-1), 1) := by decide +kernel
theorem dX5_day_134 : decode cX5_day 134 = .ok (.ireturn, 1) := by decide +kernel
theorem dX5_dayOf_0 : decode cX5_dayOf 0 = .ok (.iload_n 1, 1) := by decide +kernel
theorem dX5_dayOf_1 : decode cX5_dayOf 1 = .ok (.iconst 1, 1) := by decide +kernel
theorem dX5_dayOf_2 : decode cX5_dayOf 2 = .ok (.bipush 12, 2) := by decide +kernel
theorem dX5_dayOf_4 : decode cX5_dayOf 4 = .ok (.invokestatic 84, 3) := by decide +kernel
theorem dX5_dayOf_7 : decode cX5_dayOf 7 = .ok (.ifCond .ne 5, 3) := by decide +kernel
theorem dX5_dayOf_10 : decode cX5_dayOf 10 = .ok (.iconst (-1), 1) := by decide +kernel
theorem dX5_dayOf_11 : decode cX5_dayOf 11 = .ok (.ireturn, 1) := by decide +kernel
theorem dX5_dayOf_12 : decode cX5_dayOf 12 = .ok (.iload_n 2, 1) := by decide +kernel
theorem dX5_dayOf_13 : decode cX5_dayOf 13 = .ok (.iconst 1, 1) := by decide +kernel
theorem dX5_dayOf_14 : decode cX5_dayOf 14 = .ok (.iload_n 1, 1) := by decide +kernel
theorem dX5_dayOf_15 : decode cX5_dayOf 15 = .ok (.iload_n 0, 1) := by decide +kernel
theorem dX5_dayOf_16 : decode cX5_dayOf 16 = .ok (.invokestatic 140, 3) := by decide +kernel
theorem dX5_dayOf_19 : decode cX5_dayOf 19 = .ok (.invokestatic 84, 3) := by decide +kernel
theorem dX5_dayOf_22 : decode cX5_dayOf 22 = .ok (.ifCond .ne 5, 3) := by decide +kernel
theorem dX5_dayOf_25 : decode cX5_dayOf 25 = .ok (.iconst (-1), 1) := by decide +kernel
theorem dX5_dayOf_26 : decode cX5_dayOf 26 = .ok (.ireturn, 1) := by decide +kernel
theorem dX5_dayOf_27 : decode cX5_dayOf 27 = .ok (.iload_n 0, 1) := by decide +kernel
theorem dX5_dayOf_28 : decode cX5_dayOf 28 = .ok (.invokestatic 144, 3) := by decide +kernel
theorem dX5_dayOf_31 : decode cX5_dayOf 31 = .ok (.iload_n 2, 1) := by decide +kernel
theorem dX5_dayOf_32 : decode cX5_dayOf 32 = .ok (.iadd, 1) := by decide +kernel
theorem dX5_dayOf_33 : decode cX5_dayOf 33 = .ok (.iconst 1, 1) := by decide +kernel
theorem dX5_dayOf_34 : decode cX5_dayOf 34 = .ok (.isub, 1) := by decide +kernel
theorem dX5_dayOf_35 : decode cX5_dayOf 35 = .ok (.istore_n 3, 1) := by decide +kernel
theorem dX5_dayOf_36 : decode cX5_dayOf 36 = .ok (.iconst 1, 1) := by decide +kernel
theorem dX5_dayOf_37 : decode cX5_dayOf 37 = .ok (.istore 4, 2) := by decide +kernel
theorem dX5_dayOf_39 : decode cX5_dayOf 39 = .ok (.iload 4, 2) := by decide +kernel
theorem dX5_dayOf_41 : decode cX5_dayOf 41 = .ok (.iload_n 1, 1) := by decide +kernel
theorem dX5_dayOf_42 : decode cX5_dayOf 42 = .ok (.if_icmp .ge 18, 3) := by decide +kernel
theorem dX5_dayOf_45 : decode cX5_dayOf 45 = .ok (.iload_n 3, 1) := by decide +kernel
theorem dX5_dayOf_46 : decode cX5_dayOf 46 = .ok (.iload 4, 2) := by decide +kernel
theorem dX5_dayOf_48 : decode cX5_dayOf 48 = .ok (.iload_n 0, 1) := by decide +kernel
theorem dX5_dayOf_49 : decode cX5_dayOf 49 = .ok (.invokestatic 140, 3) := by decide +kernel
theorem dX5_dayOf_52 : decode cX5_dayOf 52 = .ok (.iadd, 1) := by decide +kernel
theorem dX5_dayOf_53 : decode cX5_dayOf 53 = .ok (.istore_n 3, 1) := by decide +kernel
theorem dX5_dayOf_54 : decode cX5_dayOf 54 = .ok (.iinc 4 1, 3) := by decide +kernel
theorem dX5_dayOf_57 : decode cX5_dayOf 57 = .ok (.goto (-18), 3) := by decide +kernel
theorem dX5_dayOf_60 : decode cX5_dayOf 60 = .ok (.iload_n 3, 1) := by decide +kernel
theorem dX5_dayOf_61 : decode cX5_dayOf 61 = .ok (.ireturn, 1) := by decide +kernel
theorem dX5_daysOfMonth_0 : decode cX5_daysOfMonth 0 = .ok (.iload_n 0, 1) := by decide +kernel
theorem dX5_daysOfMonth_1 : decode cX5_daysOfMonth 1 = .ok (.iconst 2, 1) := by decide +kernel
theorem dX5_daysOfMonth_2 : decode cX5_daysOfMonth 2 = .ok (.if_icmp .ne 17, 3) := by decide +kernel
theorem dX5_daysOfMonth_5 : decode cX5_daysOfMonth 5 = .ok (.iload_n 1, 1) := by decide +kernel
theorem dX5_daysOfMonth_6 : decode cX5_daysOfMonth 6 = .ok (.iconst 4, 1) := by decide +kernel
theorem dX5_daysOfMonth_7 : decode cX5_daysOfMonth 7 = .ok (.irem, 1) := by decide +kernel
theorem dX5_daysOfMonth_8 : decode cX5_daysOfMonth 8 = .ok (.ifCond .ne 8, 3) := by decide +kernel
theorem dX5_daysOfMonth_11 : decode cX5_daysOfMonth 11 = .ok (.bipush 29, 2) := by decide +kernel
theorem dX5_daysOfMonth_13 : decode cX5_daysOfMonth 13 = .ok (.goto 5, 3) := by decide +kernel
theorem dX5_daysOfMonth_16 : decode cX5_daysOfMonth 16 = .ok (.bipush 28, 2) := by decide +kernel
theorem dX5_daysOfMonth_18 : decode cX5_daysOfMonth 18 = .ok (.ireturn, 1) := by decide +kernel
theorem dX5_daysOfMonth_19 : decode cX5_daysOfMonth 19 = .ok (.iload_n 0, 1) := by decide +kernel
theorem dX5_daysOfMonth_20 : decode cX5_daysOfMonth 20 = .ok (.iconst 4, 1) := by decide +kernel
theorem dX5_daysOfMonth_21 : decode cX5_daysOfMonth 21 = .ok (.if_icmp .eq 21, 3) := by decide +kernel
theorem dX5_daysOfMonth_24 : decode cX5_daysOfMonth 24 = .ok (.iload_n 0, 1) := by decide +kernel
theorem dX5_daysOfMonth_25 : decode cX5_daysOfMonth 25 = .ok (.bipush 6, 2) := by decide +kernel
theorem dX5_daysOfMonth_27 : decode cX5_daysOfMonth 27 = .ok (.if_icmp .eq 15, 3) := by decide +kernel
theorem dX5_daysOfMonth_30 : decode cX5_daysOfMonth 30 = .ok (.iload_n 0, 1) := by decide +kernel
theorem dX5_daysOfMonth_31 : decode cX5_daysOfMonth 31 = .ok (.bipush 9, 2) := by decide +kernel
theorem dX5_daysOfMonth_33 : decode cX5_daysOfMonth 33 = .ok (.if_icmp .eq 9, 3) := by decide +kernel
theorem dX5_daysOfMonth_36 : decode cX5_daysOfMonth 36 = .ok (.iload_n 0, 1) := by decide +kernel
theorem dX5_daysOfMonth_37 : decode cX5_daysOfMonth 37 = .ok (.bipush 11, 2) := by decide +kernel
theorem dX5_daysOfMonth_39 : decode cX5_daysOfMonth 39 = .ok (.if_icmp .ne 8, 3) := by decide +kernel
theorem dX5_daysOfMonth_42 : decode cX5_daysOfMonth 42 = .ok (.bipush 30, 2) := by decide +kernel
theorem dX5_daysOfMonth_44 : decode cX5_daysOfMonth 44 = .ok (.goto 5, 3) := by decide +kernel
theorem dX5_daysOfMonth_47 : decode cX5_daysOfMonth 47 = .ok (.bipush 31, 2) := by decide +kernel
theorem dX5_daysOfMonth_49 : decode cX5_daysOfMonth 49 = .ok (.ireturn, 1) := by decide +kernel
theorem dX5_firstOf_0 : decode cX5_firstOf 0 = .ok (.iconst 0, 1) := by decide +kernel
theorem dX5_firstOf_1 : decode cX5_firstOf 1 = .ok (.istore_n 1, 1) := by decide +kernel
theorem dX5_firstOf_2 : decode cX5_firstOf 2 = .ok (.iconst 0, 1) := by decide +kernel
theorem dX5_firstOf_3 : decode cX5_firstOf 3 = .ok (.istore_n 2, 1) := by decide +kernel
theorem dX5_firstOf_4 : decode cX5_firstOf 4 = .ok (.iload_n 2, 1) := by decide +kernel
theorem dX5_firstOf_5 : decode cX5_firstOf 5 = .ok (.iload_n 0, 1) := by decide +kernel
theorem dX5_firstOf_6 : decode cX5_firstOf 6 = .ok (.if_icmp .ge 16, 3) := by decide +kernel
theorem dX5_firstOf_9 : decode cX5_firstOf 9 = .ok (.iload_n 1, 1) := by decide +kernel
theorem dX5_firstOf_10 : decode cX5_firstOf 10 = .ok (.iload_n 2, 1) := by decide +kernel
theorem dX5_firstOf_11 : decode cX5_firstOf 11 = .ok (.invokestatic 137, 3) := by decide +kernel
theorem dX5_firstOf_14 : decode cX5_firstOf 14 = .ok (.iadd, 1) := by decide +kernel
theorem dX5_firstOf_15 : decode cX5_firstOf 15 = .ok (.istore_n 1, 1) := by decide +kernel
theorem dX5_firstOf_16 : decode cX5_firstOf 16 = .ok (.iinc 2 1, 3) := by decide +kernel
theorem dX5_firstOf_19 : decode cX5_firstOf 19 = .ok (.goto (-15), 3) := by decide +kernel
theorem dX5_firstOf_22 : decode cX5_firstOf 22 = .ok (.iload_n 1, 1) := by decide +kernel
theorem dX5_firstOf_23 : decode cX5_firstOf 23 = .ok (.ireturn, 1) := by decide +kernel
theorem dX5_daysOfYear_0 : decode cX5_daysOfYear 0 = .ok (.iload_n 0, 1) := by decide +kernel
theorem dX5_daysOfYear_1 : decode cX5_daysOfYear 1 = .ok (.iconst 4, 1) := by decide +kernel
theorem dX5_daysOfYear_2 : decode cX5_daysOfYear 2 = .ok (.irem, 1) := by decide +kernel
theorem dX5_daysOfYear_3 : decode cX5_daysOfYear 3 = .ok (.ifCond .ne 9, 3) := by decide +kernel
theorem dX5_daysOfYear_6 : decode cX5_daysOfYear 6 = .ok (.sipush 366, 3) := by decide +kernel
theorem dX5_daysOfYear_9 : decode cX5_daysOfYear 9 = .ok (.goto 6, 3) := by decide +kernel
theorem dX5_daysOfYear_12 : decode cX5_daysOfYear 12 = .ok (.sipush 365, 3) := by decide +kernel
theorem dX5_daysOfYear_15 : decode cX5_daysOfYear 15 = .ok (.ireturn, 1) := by decide +kernel
theorem dX5_date_0 : decode cX5_date 0 = .ok (.aload_n 0, 1) := by decide +kernel
theorem dX5_date_1 : decode cX5_date 1 = .ok (.iload_n 1, 1) := by decide +kernel
theorem dX5_date_2 : decode cX5_date 2 = .ok (.iconst 0, 1) := by decide +kernel
theorem dX5_date_3 : decode cX5_date 3 = .ok (.iconst 2, 1) := by decide +kernel
theorem dX5_date_4 : decode cX5_date 4 = .ok (.invokestatic 84, 3) := by decide +kernel
theorem dX5_date_7 : decode cX5_date 7 = .ok (.ifCond .eq 13, 3) := by decide +kernel
theorem dX5_date_10 : decode cX5_date 10 = .ok (.iload_n 2, 1) := by decide +kernel
theorem dX5_date_11 : decode cX5_date 11 = .ok (.iconst 0, 1) := by decide +kernel
theorem dX5_date_12 : decode cX5_date 12 = .ok (.ldc 91, 2) := by decide +kernel
theorem dX5_date_14 : decode cX5_date 14 = .ok (.invokestatic 84, 3) := by decide +kernel
theorem dX5_date_17 : decode cX5_date 17 = .ok (.ifCond .ne 7, 3) := by decide +kernel
theorem dX5_date_20 : decode cX5_date 20 = .ok (.iconst 1, 1) := by decide +kernel
theorem dX5_date_21 : decode cX5_date 21 = .ok (.goto 4, 3) := by decide +kernel
theorem dX5_date_24 : decode cX5_date 24 = .ok (.iconst 0, 1) := by decide +kernel
theorem dX5_date_25 : decode cX5_date 25 = .ok (.putfield 77, 3) := by decide +kernel
theorem dX5_date_28 : decode cX5_date 28 = .ok (.aload_n 0, 1) := by decide +kernel
theorem dX5_date_29 : decode cX5_date 29 = .ok (.getfield 77, 3) := by decide +kernel
theorem dX5_date_32 : decode cX5_date 32 = .ok (.ifCond .le 5, 3) := by decide +kernel
theorem dX5_date_35 : decode cX5_date 35 = .ok (.iconst 0, 1) := by decide +kernel
theorem dX5_date_36 : decode cX5_date 36 = .ok (.ireturn, 1) := by decide +kernel
theorem dX5_date_37 : decode cX5_date 37 = .ok (.iconst 0, 1) := by decide +kernel
theorem dX5_date_38 : decode cX5_date 38 = .ok (.istore_n 3, 1) := by decide +kernel
theorem dX5_date_39 : decode cX5_date 39 = .ok (.iload_n 2, 1) := by decide +kernel
theorem dX5_date_40 : decode cX5_date 40 = .ok (.istore 4, 2) := by decide +kernel
theorem dX5_date_42 : decode cX5_date 42 = .ok (.iload 4, 2) := by decide +kernel
theorem dX5_date_44 : decode cX5_date 44 = .ok (.iload_n 3, 1) := by decide +kernel
theorem dX5_date_45 : decode cX5_date 45 = .ok (.invokestatic 137, 3) := by decide +kernel
theorem dX5_date_48 : decode cX5_date 48 = .ok (.if_icmp .lt 18, 3) := by decide +kernel
theorem dX5_date_51 : decode cX5_date 51 = .ok (.iload 4, 2) := by decide +kernel
theorem dX5_date_53 : decode cX5_date 53 = .ok (.iload_n 3, 1) := by decide +kernel
theorem dX5_date_54 : decode cX5_date 54 = .ok (.invokestatic 137, 3) := by decide +kernel
theorem dX5_date_57 : decode cX5_date 57 = .ok (.isub, 1) := by decide +kernel
theorem dX5_date_58 : decode cX5_date 58 = .ok (.istore 4, 2) := by decide +kernel
theorem dX5_date_60 : decode cX5_date 60 = .ok (.iinc 3 1, 3) := by decide +kernel
theorem dX5_date_63 : decode cX5_date 63 = .ok (.goto (-21), 3) := by decide +kernel
theorem dX5_date_66 : decode cX5_date 66 = .ok (.iload_n 1, 1) := by decide +kernel
theorem dX5_date_67 : decode cX5_date 67 = .ok (.iconst 2, 1) := by decide +kernel
theorem dX5_date_68 : decode cX5_date 68 = .ok (.if_icmp .ne 14, 3) := by decide +kernel
theorem dX5_date_71 : decode cX5_date 71 = .ok (.sipush 1000, 3) := by decide +kernel
theorem dX5_date_74 : decode cX5_date 74 = .ok (.iload_n 3, 1) := by decide +kernel
theorem dX5_date_75 : decode cX5_date 75 = .ok (.imul, 1) := by decide +kernel
theorem dX5_date_76 : decode cX5_date 76 = .ok (.iload 4, 2) := by decide +kernel
theorem dX5_date_78 : decode cX5_date 78 = .ok (.iadd, 1) := by decide +kernel
theorem dX5_date_79 : decode cX5_date 79 = .ok (.iconst 1, 1) := by decide +kernel
theorem dX5_date_80 : decode cX5_date 80 = .ok (.iadd, 1) := by decide +kernel
theorem dX5_date_81 : decode cX5_date 81 = .ok (.ireturn, 1) := by decide +kernel
theorem dX5_date_82 : decode cX5_date 82 = .ok (.iconst 1, 1) := by decide +kernel
theorem dX5_date_83 : decode cX5_date 83 = .ok (.istore 5, 2) := by decide +kernel
theorem dX5_date_85 : decode cX5_date 85 = .ok (.iload 4, 2) := by decide +kernel
theorem dX5_date_87 : decode cX5_date 87 = .ok (.iload 5, 2) := by decide +kernel
theorem dX5_date_89 : decode cX5_date 89 = .ok (.iload_n 3, 1) := by decide +kernel
theorem dX5_date_90 : decode cX5_date 90 = .ok (.invokestatic 140, 3) := by decide +kernel
theorem dX5_date_93 : decode cX5_date 93 = .ok (.if_icmp .lt 20, 3) := by decide +kernel
theorem dX5_date_96 : decode cX5_date 96 = .ok (.iload 4, 2) := by decide +kernel
theorem dX5_date_98 : decode cX5_date 98 = .ok (.iload 5, 2) := by decide +kernel
theorem dX5_date_100 : decode cX5_date 100 = .ok (.iload_n 3, 1) := by decide +kernel
theorem dX5_date_101 : decode cX5_date 101 = .ok (.invokestatic 140, 3) := by decide +kernel
theorem dX5_date_104 : decode cX5_date 104 = .ok (.isub, 1) := by decide +kernel
theorem dX5_date_105 : decode cX5_date 105 = .ok (.istore 4, 2) := by decide +kernel
theorem dX5_date_107 : decode cX5_date 107 = .ok (.iinc 5 1, 3) := by decide +kernel
theorem dX5_date_110 : decode cX5_date 110 = .ok (.goto (-25), 3) := by decide +kernel
theorem dX5_date_113 : decode cX5_date 113 = .ok (.iload_n 1, 1) := by decide +kernel
theorem dX5_date_114 : decode cX5_date 114 = .ok (.ifCond .ne 22, 3) := by decide +kernel
theorem dX5_date_117 : decode cX5_date 117 = .ok (.sipush 10000, 3) := by decide +kernel
theorem dX5_date_120 : decode cX5_date 120 = .ok (.iload_n 3, 1) := by decide +kernel
theorem dX5_date_121 : decode cX5_date 121 = .ok (.imul, 1) := by decide +kernel
theorem dX5_date_122 : decode cX5_date 122 = .ok (.bipush 100, 2) := by decide +kernel
theorem dX5_date_124 : decode cX5_date 124 = .ok (.iload 5, 2) := by decide +kernel
theorem dX5_date_126 : decode cX5_date 126 = .ok (.imul, 1) := by decide +kernel
theorem dX5_date_127 : decode cX5_date 127 = .ok (.iadd, 1) := by decide +kernel
theorem dX5_date_128 : decode cX5_date 128 = .ok (.iload 4, 2) := by decide +kernel
theorem dX5_date_130 : decode cX5_date 130 = .ok (.iadd, 1) := by decide +kernel
theorem dX5_date_131 : decode cX5_date 131 = .ok (.iconst 1, 1) := by decide +kernel
theorem dX5_date_132 : decode cX5_date 132 = .ok (.iadd, 1) := by decide +kernel
theorem dX5_date_133 : decode cX5_date 133 = .ok (.goto 19, 3) := by decide +kernel
theorem dX5_date_136 : decode cX5_date 136 = .ok (.sipush 10000, 3) := by decide +kernel
theorem dX5_date_139 : decode cX5_date 139 = .ok (.iload 4, 2) := by decide +kernel
theorem dX5_date_141 : decode cX5_date 141 = .ok (.iconst 1, 1) := by decide +kernel
theorem dX5_date_142 : decode cX5_date 142 = .ok (.iadd, 1) := by decide +kernel
theorem dX5_date_143 : decode cX5_date 143 = .ok (.imul, 1) := by decide +kernel
theorem dX5_date_144 : decode cX5_date 144 = .ok (.bipush 100, 2) := by decide +kernel
theorem dX5_date_146 : decode cX5_date 146 = .ok (.iload 5, 2) := by decide +kernel
theorem dX5_date_148 : decode cX5_date 148 = .ok (.imul, 1) := by decide +kernel
theorem dX5_date_149 : decode cX5_date 149 = .ok (.iadd, 1) := by decide +kernel
theorem dX5_date_150 : decode cX5_date 150 = .ok (.iload_n 3, 1) := by decide +kernel
theorem dX5_date_151 : decode cX5_date 151 = .ok (.iadd, 1) := by decide +kernel
theorem dX5_date_152 : decode cX5_date 152 = .ok (.ireturn, 1) := by decide +kernel
theorem dX5_count_0 : decode cX5_count 0 = .ok (.aload_n 0, 1) := by decide +kernel
theorem dX5_count_1 : decode cX5_count 1 = .ok (.iconst 0, 1) := by decide +kernel
theorem dX5_count_2 : decode cX5_count 2 = .ok (.putfield 77, 3) := by decide +kernel
theorem dX5_count_5 : decode cX5_count 5 = .ok (.iload_n 1, 1) := by decide +kernel
theorem dX5_count_6 : decode cX5_count 6 = .ok (.ifCond .ne 8, 3) := by decide +kernel
theorem dX5_count_9 : decode cX5_count 9 = .ok (.aload_n 0, 1) := by decide +kernel
theorem dX5_count_10 : decode cX5_count 10 = .ok (.getfield 81, 3) := by decide +kernel
theorem dX5_count_13 : decode cX5_count 13 = .ok (.ireturn, 1) := by decide +kernel
theorem dX5_count_14 : decode cX5_count 14 = .ok (.iload_n 1, 1) := by decide +kernel
theorem dX5_count_15 : decode cX5_count 15 = .ok (.iconst 1, 1) := by decide +kernel
theorem dX5_count_16 : decode cX5_count 16 = .ok (.if_icmp .ne 8, 3) := by decide +kernel
theorem dX5_count_19 : decode cX5_count 19 = .ok (.aload_n 0, 1) := by decide +kernel
theorem dX5_count_20 : decode cX5_count 20 = .ok (.getfield 121, 3) := by decide +kernel
theorem dX5_count_23 : decode cX5_count 23 = .ok (.ireturn, 1) := by decide +kernel
theorem dX5_count_24 : decode cX5_count 24 = .ok (.iload_n 1, 1) := by decide +kernel
theorem dX5_count_25 : decode cX5_count 25 = .ok (.iconst 2, 1) := by decide +kernel
theorem dX5_count_26 : decode cX5_count 26 = .ok (.if_icmp .ne 8, 3) := by decide +kernel
theorem dX5_count_29 : decode cX5_count 29 = .ok (.aload_n 0, 1) := by decide +kernel
theorem dX5_count_30 : decode cX5_count 30 = .ok (.getfield 88, 3) := by decide +kernel
theorem dX5_count_33 : decode cX5_count 33 = .ok (.ireturn, 1) := by decide +kernel
theorem dX5_count_34 : decode cX5_count 34 = .ok (.iconst 0, 1) := by decide +kernel
theorem dX5_count_35 : decode cX5_count 35 = .ok (.istore_n 2, 1) := by decide +kernel
theorem dX5_count_36 : decode cX5_count 36 = .ok (.iconst 1, 1) := by decide +kernel
theorem dX5_count_37 : decode cX5_count 37 = .ok (.istore_n 3, 1) := by decide +kernel
theorem dX5_count_38 : decode cX5_count 38 = .ok (.iload_n 3, 1) := by decide +kernel
theorem dX5_count_39 : decode cX5_count 39 = .ok (.aload_n 0, 1) := by decide +kernel
theorem dX5_count_40 : decode cX5_count 40 = .ok (.getfield 121, 3) := by decide +kernel
theorem dX5_count_43 : decode cX5_count 43 = .ok (.if_icmp .gt 25, 3) := by decide +kernel
theorem dX5_count_46 : decode cX5_count 46 = .ok (.iload_n 2, 1) := by decide +kernel
theorem dX5_count_47 : decode cX5_count 47 = .ok (.aload_n 0, 1) := by decide +kernel
theorem dX5_count_48 : decode cX5_count 48 = .ok (.iload_n 3, 1) := by decide +kernel
theorem dX5_count_49 : decode cX5_count 49 = .ok (.invokevirtual 127, 3) := by decide +kernel
theorem dX5_count_52 : decode cX5_count 52 = .ok (.ifCond .eq 7, 3) := by decide +kernel
theorem dX5_count_55 : decode cX5_count 55 = .ok (.iconst 1, 1) := by decide +kernel
theorem dX5_count_56 : decode cX5_count 56 = .ok (.goto 4, 3) := by decide +kernel
theorem dX5_count_59 : decode cX5_count 59 = .ok (.iconst 0, 1) := by decide +kernel
theorem dX5_count_60 : decode cX5_count 60 = .ok (.iadd, 1) := by decide +kernel
theorem dX5_count_61 : decode cX5_count 61 = .ok (.istore_n 2, 1) := by decide +kernel
theorem dX5_count_62 : decode cX5_count 62 = .ok (.iinc 3 1, 3) := by decide +kernel
theorem dX5_count_65 : decode cX5_count 65 = .ok (.goto (-27), 3) := by decide +kernel
theorem dX5_count_68 : decode cX5_count 68 = .ok (.iload_n 1, 1) := by decide +kernel
theorem dX5_count_69 : decode cX5_count 69 = .ok (.iconst 3, 1) := by decide +kernel
theorem dX5_count_70 : decode cX5_count 70 = .ok (.if_icmp .ne 7, 3) := by decide +kernel
theorem dX5_count_73 : decode cX5_count 73 = .ok (.iload_n 2, 1) := by decide +kernel
theorem dX5_count_74 : decode cX5_count 74 = .ok (.goto 4, 3) := by decide +kernel
theorem dX5_count_77 : decode cX5_count 77 = .ok (.iconst (-1), 1) := by decide +kernel
theorem dX5_count_78 : decode cX5_count 78 = .ok (.ireturn, 1) := by decide +kernel