theorem dX10_init_0 : decode cX10_init 0 = .ok (.aload_n 0, 1) := by decide +kernel
theorem dX10_init_1 : decode cX10_init 1 = .ok (.invokespecial 1, 3) := by decide +kernel
theorem dX10_init_4 : decode cX10_init 4 = .ok (.aload_n 0, 1) := by decide +kernel
theorem dX10_init_5 : decode cX10_init 5 = .ok (.bipush 20, 2) := by decide +kernel
theorem dX10_init_7 : decode cX10_init 7 = .ok (.newarray .int, 2) := by decide +kernel
theorem dX10_init_9 : decode cX10_init 9 = .ok (.putfield 7, 3) := by decide +kernel
theorem dX10_init_12 : decode cX10_init 12 = .ok (.aload_n 0, 1) := by decide +kernel
theorem dX10_init_13 : decode cX10_init 13 = .ok (.bipush 20, 2) := by decide +kernel
theorem dX10_init_15 : decode cX10_init 15 = .ok (.newarray .int, 2) := by decide +kernel
theorem dX10_init_17 : decode cX10_init 17 = .ok (.putfield 13, 3) := by decide +kernel
theorem dX10_init_20 : decode cX10_init 20 = .ok (.aload_n 0, 1) := by decide +kernel
theorem dX10_init_21 : decode cX10_init 21 = .ok (.bipush 20, 2) := by decide +kernel
theorem dX10_init_23 : decode cX10_init 23 = .ok (.newarray .int, 2) := by decide +kernel
theorem dX10_init_25 : decode cX10_init 25 = .ok (.putfield 16, 3) := by decide +kernel
theorem dX10_init_28 : decode cX10_init 28 = .ok (.aload_n 0, 1) := by decide +kernel
theorem dX10_init_29 : decode cX10_init 29 = .ok (.bipush 20, 2) := by decide +kernel
theorem dX10_init_31 : decode cX10_init 31 = .ok (.newarray .int, 2) := by decide +kernel
theorem dX10_init_33 : decode cX10_init 33 = .ok (.putfield 19, 3) := by decide +kernel
theorem dX10_init_36 : decode cX10_init 36 = .ok (.aload_n 0, 1) := by decide +kernel
theorem dX10_init_37 : decode cX10_init 37 = .ok (.bipush 20, 2) := by decide +kernel
theorem dX10_init_39 : decode cX10_init 39 = .ok (.newarray .int, 2) := by decide +kernel
theorem dX10_init_41 : decode cX10_init 41 = .ok (.putfield 22, 3) := by decide +kernel
theorem dX10_init_44 : decode cX10_init 44 = .ok (.aload_n 0, 1) := by decide +kernel
theorem dX10_init_45 : decode cX10_init 45 = .ok (.bipush 8, 2) := by decide +kernel
theorem dX10_init_47 : decode cX10_init 47 = .ok (.newarray .int, 2) := by decide +kernel
theorem dX10_init_49 : decode cX10_init 49 = .ok (.putfield 25, 3) := by decide +kernel
theorem dX10_init_52 : decode cX10_init 52 = .ok (.aload_n 0, 1) := by decide +kernel
theorem dX10_init_53 : decode cX10_init 53 = .ok (.bipush 8, 2) := by decide +kernel
theorem dX10_init_55 : decode cX10_init 55 = .ok (.newarray .int, 2) := by decide +kernel
theorem dX10_init_57 : decode cX10_init 57 = .ok (.putfield 28, 3) := by decide +kernel
theorem dX10_init_60 : decode cX10_init 60 = .ok (.aload_n 0, 1) := by decide +kernel
theorem dX10_init_61 : decode cX10_init 61 = .ok (.bipush 28, 2) := by decide +kernel
theorem dX10_init_63 : decode cX10_init 63 = .ok (.newarray .long, 2) := by decide +kernel
theorem dX10_init_65 : decode cX10_init 65 = .ok (.putfield 31, 3) := by decide +kernel
theorem dX10_init_68 : decode cX10_init 68 = .ok (.aload_n 0, 1) := by decide +kernel
theorem dX10_init_69 : decode cX10_init 69 = .ok (.bipush 28, 2) := by decide +kernel
theorem dX10_init_71 : decode cX10_init 71 = .ok (.newarray .long, 2) := by decide +kernel
theorem dX10_init_73 : decode cX10_init 73 = .ok (.putfield 35, 3) := by decide +kernel
theorem dX10_init_76 : decode cX10_init 76 = .ok (.aload_n 0, 1) := by decide +kernel
theorem dX10_init_77 : decode cX10_init 77 = .ok (.bipush 28, 2) := by decide +kernel
theorem dX10_init_79 : decode cX10_init 79 = .ok (.newarray .long, 2) := by decide +kernel
theorem dX10_init_81 : decode cX10_init 81 = .ok (.putfield 38, 3) := by decide +kernel
theorem dX10_init_84 : decode cX10_init 84 = .ok (.aload_n 0, 1) := by decide +kernel
theorem dX10_init_85 : decode cX10_init 85 = .ok (.bipush 28, 2) := by decide +kernel
theorem dX10_init_87 : decode cX10_init 87 = .ok (.newarray .int, 2) := by decide +kernel
theorem dX10_init_89 : decode cX10_init 89 = .ok (.putfield 41, 3) := by decide +kernel
theorem dX10_init_92 : decode cX10_init 92 = .ok (.aload_n 0, 1) := by decide +kernel
theorem dX10_init_93 : decode cX10_init 93 = .ok (.bipush 28, 2) := by decide +kernel
theorem dX10_init_95 : decode cX10_init 95 = .ok (.newarray .int, 2) := by decide +kernel
theorem dX10_init_97 : decode cX10_init 97 = .ok (.putfield 44, 3) := by decide +kernel
theorem dX10_init_100 : decode cX10_init 100 = .ok (.aload_n 0, 1) := by decide +kernel
theorem dX10_init_101 : decode cX10_init 101 = .ok (.bipush 28, 2) := by decide +kernel
theorem dX10_init_103 : decode cX10_init 103 = .ok (.newarray .int, 2) := by decide +kernel
theorem dX10_init_105 : decode cX10_init 105 = .ok (.putfield 47, 3) := by decide +kernel
theorem dX10_init_108 : decode cX10_init 108 = .ok (.aload_n 0, 1) := by decide +kernel
theorem dX10_init_109 : decode cX10_init 109 = .ok (.bipush 8, 2) := by decide +kernel
theorem dX10_init_111 : decode cX10_init 111 = .ok (.newarray .long, 2) := by decide +kernel
theorem dX10_init_113 : decode cX10_init 113 = .ok (.putfield 50, 3) := by decide +kernel
theorem dX10_init_116 : decode cX10_init 116 = .ok (.aload_n 0, 1) := by decide +kernel
theorem dX10_init_117 : decode cX10_init 117 = .ok (.bipush 9, 2) := by decide +kernel
theorem dX10_init_119 : decode cX10_init 119 = .ok (.newarray .int, 2) := by decide +kernel
theorem dX10_init_121 : decode cX10_init 121 = .ok (.putfield 53, 3) := by decide +kernel
theorem dX10_init_124 : decode cX10_init 124 = .ok (.aload_n 0, 1) := by decide +kernel
theorem dX10_init_125 : decode cX10_init 125 = .ok (.bipush 9, 2) := by decide +kernel
theorem dX10_init_127 : decode cX10_init 127 = .ok (.newarray .int, 2) := by decide +kernel
theorem dX10_init_129 : decode cX10_init 129 = .ok (.putfield 56, 3) := by decide +kernel
theorem dX10_init_132 : decode cX10_init 132 = .ok (.aload_n 0, 1) := by decide +kernel
theorem dX10_init_133 : decode cX10_init 133 = .ok (.bipush 9, 2) := by decide +kernel
theorem dX10_init_135 : decode cX10_init 135 = .ok (.newarray .int, 2) := by decide +kernel
theorem dX10_init_137 : decode cX10_init 137 = .ok (.putfield 59, 3) := by decide +kernel
theorem dX10_init_140 : decode cX10_init 140 = .ok (.aload_n 0, 1) := by decide +kernel
theorem dX10_init_141 : decode cX10_init 141 = .ok (.bipush 9, 2) := by decide +kernel
theorem dX10_init_143 : decode cX10_init 143 = .ok (.newarray .long, 2) := by decide +kernel
theorem dX10_init_145 : decode cX10_init 145 = .ok (.putfield 62, 3) := by decide +kernel
theorem dX10_init_148 : decode cX10_init 148 = .ok (.aload_n 0, 1) := by decide +kernel
theorem dX10_init_149 : decode cX10_init 149 = .ok (.sipush 20000, 3) := by decide +kernel
theorem dX10_init_152 : decode cX10_init 152 = .ok (.newarray .int, 2) := by decide +kernel
theorem dX10_init_154 : decode cX10_init 154 = .ok (.putfield 65, 3) := by decide +kernel
theorem dX10_init_157 : decode cX10_init 157 = .ok (.aload_n 0, 1) := by decide +kernel
theorem dX10_init_158 : decode cX10_init 158 = .ok (.sipush 20000, 3) := by decide +kernel
theorem dX10_init_161 : decode cX10_init 161 = .ok (.newarray .int, 2) := by decide +kernel
theorem dX10_init_163 : decode cX10_init 163 = .ok (.putfield 68, 3) := by decide +kernel
theorem dX10_init_166 : decode cX10_init 166 = .ok (.aload_n 0, 1) := by decide +kernel
theorem dX10_init_167 : decode cX10_init 167 = .ok (.bipush 20, 2) := by decide +kernel
theorem dX10_init_169 : decode cX10_init 169 = .ok (.newarray .int, 2) := by decide +kernel
theorem dX10_init_171 : decode cX10_init 171 = .ok (.putfield 71, 3) := by decide +kernel
theorem dX10_init_174 : decode cX10_init 174 = .ok (.aload_n 0, 1) := by decide +kernel
theorem dX10_init_175 : decode cX10_init 175 = .ok (.bipush 20, 2) := by decide +kernel
theorem dX10_init_177 : decode cX10_init 177 = .ok (.newarray .boolean, 2) := by decide +kernel
theorem dX10_init_179 : decode cX10_init 179 = .ok (.putfield 74, 3) := by decide +kernel
theorem dX10_init_182 : decode cX10_init 182 = .ok (.aload_n 0, 1) := by decide +kernel
theorem dX10_init_183 : decode cX10_init 183 = .ok (.bipush 9, 2) := by decide +kernel
theorem dX10_init_185 : decode cX10_init 185 = .ok (.newarray .long, 2) := by decide +kernel
theorem dX10_init_187 : decode cX10_init 187 = .ok (.putfield 78, 3) := by decide +kernel
theorem dX10_init_190 : decode cX10_init 190 = .ok (.aload_n 0, 1) := by decide +kernel
theorem dX10_init_191 : decode cX10_init 191 = .ok (.bipush 9, 2) := by decide +kernel
theorem dX10_init_193 : decode cX10_init 193 = .ok (.newarray .long, 2) := by decide +kernel
theorem dX10_init_195 : decode cX10_init 195 = .ok (.putfield 81, 3) := by decide +kernel
theorem dX10_init_198 : decode cX10_init 198 = .ok (.aload_n 0, 1) := by decide +kernel
theorem dX10_init_199 : decode cX10_init 199 = .ok (.sipush 500, 3) := by decide +kernel
theorem dX10_init_202 : decode cX10_init 202 = .ok (.newarray .long, 2) := by decide +kernel
theorem dX10_init_204 : decode cX10_init 204 = .ok (.putfield 84, 3) := by decide +kernel
theorem dX10_init_207 : decode cX10_init 207 = .ok (.aload_n 0, 1) := by decide +kernel
theorem dX10_init_208 : decode cX10_init 208 = .ok (.sipush 500, 3) := by decide +kernel
theorem dX10_init_211 : decode cX10_init 211 = .ok (.newarray .long, 2) := by decide +kernel
theorem dX10_init_213 : decode cX10_init 213 = .ok (.putfield 87, 3) := by decide +kernel
theorem dX10_init_216 : decode cX10_init 216 = .ok (.aload_n 0, 1) := by decide +kernel
theorem dX10_init_217 : decode cX10_init 217 = .ok (.sipush 500, 3) := by decide +kernel
theorem dX10_init_220 : decode cX10_init 220 = .ok (.newarray .long, 2) := by decide +kernel
theorem dX10_init_222 : decode cX10_init 222 = .ok (.putfield 90, 3) := by decide +kernel
theorem dX10_init_225 : decode cX10_init 225 = .ok (.aload_n 0, 1) := by decide +kernel
theorem dX10_init_226 : decode cX10_init 226 = .ok (.sipush 500, 3) := by decide +kernel
theorem dX10_init_229 : decode cX10_init 229 = .ok (.newarray .long, 2) := by decide +kernel
theorem dX10_init_231 : decode cX10_init 231 = .ok (.putfield 93, 3) := by decide +kernel
theorem dX10_init_234 : decode cX10_init 234 = .ok (.aload_n 0, 1) := by decide +kernel
theorem dX10_init_235 : decode cX10_init 235 = .ok (.sipush 500, 3) := by decide +kernel
theorem dX10_init_238 : decode cX10_init 238 = .ok (.newarray .boolean, 2) := by decide +kernel
theorem dX10_init_240 : decode cX10_init 240 = .ok (.putfield 96, 3) := by decide +kernel
theorem dX10_init_243 : decode cX10_init 243 = .ok (.aload_n 0, 1) := by decide +kernel
theorem dX10_init_244 : decode cX10_init 244 = .ok (.sipush 500, 3) := by decide +kernel
theorem dX10_init_247 : decode cX10_init 247 = .ok (.newarray .long, 2) := by decide +kernel
theorem dX10_init_249 : decode cX10_init 249 = .ok (.putfield 99, 3) := by decide +kernel
theorem dX10_init_252 : decode cX10_init 252 = .ok (.aload_n 0, 1) := by decide +kernel
theorem dX10_init_253 : decode cX10_init 253 = .ok (.iconst 2, 1) := by decide +kernel
theorem dX10_init_254 : decode cX10_init 254 = .ok (.invokevirtual 102, 3) := by decide +kernel
theorem dX10_init_257 : decode cX10_init 257 = .ok (.return_, 1) := by decide +kernel
theorem dX10_in_0 : decode cX10_in 0 = .ok (.iload_n 0, 1) := by decide +kernel
theorem dX10_in_1 : decode cX10_in 1 = .ok (.iload_n 1, 1) := by decide +kernel
theorem dX10_in_2 : decode cX10_in 2 = .ok (.if_icmp .lt 12, 3) := by decide +kernel
theorem dX10_in_5 : decode cX10_in 5 = .ok (.iload_n 0, 1) := by decide +kernel
theorem dX10_in_6 : decode cX10_in 6 = .ok (.iload_n 2, 1) := by decide +kernel
theorem dX10_in_7 : decode cX10_in 7 = .ok (.if_icmp .gt 7, 3) := by decide +kernel
theorem dX10_in_10 : decode cX10_in 10 = .ok (.iconst 1, 1) := by decide +kernel
theorem dX10_in_11 : decode cX10_in 11 = .ok (.goto 4, 3) := by decide +kernel
theorem dX10_in_14 : decode cX10_in 14 = .ok (.iconst 0, 1) := by decide +kernel
theorem dX10_in_15 : decode cX10_in 15 = .ok (.ireturn, 1) := by decide +kernel
theorem dX10_lost_0 : decode cX10_lost 0 = .ok (.ldc2_w 106, 3) := by decide +kernel
theorem dX10_lost_3 : decode cX10_lost 3 = .ok (.lreturn, 1) := by decide +kernel
theorem dX10_size_0 : decode cX10_size 0 = .ok (.lload_n 0, 1) := by decide +kernel
theorem dX10_size_1 : decode cX10_size 1 = .ok (.lconst 0, 1) := by decide +kernel
theorem dX10_size_2 : decode cX10_size 2 = .ok (.lcmp, 1) := by decide +kernel
theorem dX10_size_3 : decode cX10_size 3 = .ok (.ifCond .ge 8, 3) := by decide +kernel
theorem dX10_size_6 : decode cX10_size 6 = .ok (.lload_n 0, 1) := by decide +kernel
theorem dX10_size_7 : decode cX10_size 7 = .ok (.lneg, 1) := by decide +kernel
theorem dX10_size_8 : decode cX10_size 8 = .ok (.goto 4, 3) := by decide +kernel
theorem dX10_size_11 : decode cX10_size 11 = .ok (.lload_n 0, 1) := by decide +kernel
theorem dX10_size_12 : decode cX10_size 12 = .ok (.lreturn, 1) := by decide +kernel
theorem dX10_common_0 : decode cX10_common 0 = .ok (.lload_n 0, 1) := by decide +kernel
theorem dX10_common_1 : decode cX10_common 1 = .ok (.invokestatic 108, 3) := by decide +kernel
theorem dX10_common_4 : decode cX10_common 4 = .ok (.lstore 4, 2) := by decide +kernel
theorem dX10_common_6 : decode cX10_common 6 = .ok (.lload_n 2, 1) := by decide +kernel
theorem dX10_common_7 : decode cX10_common 7 = .ok (.invokestatic 108, 3) := by decide +kernel
theorem dX10_common_10 : decode cX10_common 10 = .ok (.lstore 6, 2) := by decide +kernel
theorem dX10_common_12 : decode cX10_common 12 = .ok (.lload 6, 2) := by decide +kernel
theorem dX10_common_14 : decode cX10_common 14 = .ok (.lconst 0, 1) := by decide +kernel
theorem dX10_common_15 : decode cX10_common 15 = .ok (.lcmp, 1) := by decide +kernel
theorem dX10_common_16 : decode cX10_common 16 = .ok (.ifCond .eq 21, 3) := by decide +kernel
theorem dX10_common_19 : decode cX10_common 19 = .ok (.lload 4, 2) := by decide +kernel
theorem dX10_common_21 : decode cX10_common 21 = .ok (.lload 6, 2) := by decide +kernel
theorem dX10_common_23 : decode cX10_common 23 = .ok (.lrem, 1) := by decide +kernel
theorem dX10_common_24 : decode cX10_common 24 = .ok (.lstore 8, 2) := by decide +kernel
theorem dX10_common_26 : decode cX10_common 26 = .ok (.lload 6, 2) := by decide +kernel
theorem dX10_common_28 : decode cX10_common 28 = .ok (.lstore 4, 2) := by decide +kernel
theorem dX10_common_30 : decode cX10_common 30 = .ok (.lload 8, 2) := by decide +kernel
theorem dX10_common_32 : decode cX10_common 32 = .ok (.lstore 6, 2) := by decide +kernel
theorem dX10_common_34 : decode cX10_common 34 = .ok (.goto (-22), 3) := by decide +kernel
theorem dX10_common_37 : decode cX10_common 37 = .ok (.lload 4, 2) := by decide +kernel
theorem dX10_common_39 : decode cX10_common 39 = .ok (.lreturn, 1) := by decide +kernel
theorem dX10_part_0 : decode cX10_part 0 = .ok (.lload_n 0, 1) := by decide +kernel
theorem dX10_part_1 : decode cX10_part 1 = .ok (.lload_n 2, 1) := by decide +kernel
theorem dX10_part_2 : decode cX10_part 2 = .ok (.invokestatic 112, 3) := by decide +kernel
theorem dX10_part_5 : decode cX10_part 5 = .ok (.lload_n 2, 1) := by decide +kernel
theorem dX10_part_6 : decode cX10_part 6 = .ok (.lconst 0, 1) := by decide +kernel
theorem dX10_part_7 : decode cX10_part 7 = .ok (.lcmp, 1) := by decide +kernel
theorem dX10_part_8 : decode cX10_part 8 = .ok (.ifCond .ge 9, 3) := by decide +kernel
theorem dX10_part_11 : decode cX10_part 11 = .ok (.ldc2_w 116, 3) := by decide +kernel
theorem dX10_part_14 : decode cX10_part 14 = .ok (.goto 4, 3) := by decide +kernel
theorem dX10_part_17 : decode cX10_part 17 = .ok (.lconst 1, 1) := by decide +kernel
theorem dX10_part_18 : decode cX10_part 18 = .ok (.lmul, 1) := by decide +kernel
theorem dX10_part_19 : decode cX10_part 19 = .ok (.lstore 5, 2) := by decide +kernel
theorem dX10_part_21 : decode cX10_part 21 = .ok (.iload 4, 2) := by decide +kernel
theorem dX10_part_23 : decode cX10_part 23 = .ok (.ifCond .eq 10, 3) := by decide +kernel
theorem dX10_part_26 : decode cX10_part 26 = .ok (.lload_n 2, 1) := by decide +kernel
theorem dX10_part_27 : decode cX10_part 27 = .ok (.lload 5, 2) := by decide +kernel
theorem dX10_part_29 : decode cX10_part 29 = .ok (.ldiv, 1) := by decide +kernel
theorem dX10_part_30 : decode cX10_part 30 = .ok (.goto 7, 3) := by decide +kernel
theorem dX10_part_33 : decode cX10_part 33 = .ok (.lload_n 0, 1) := by decide +kernel
theorem dX10_part_34 : decode cX10_part 34 = .ok (.lload 5, 2) := by decide +kernel
theorem dX10_part_36 : decode cX10_part 36 = .ok (.ldiv, 1) := by decide +kernel
theorem dX10_part_37 : decode cX10_part 37 = .ok (.lreturn, 1) := by decide +kernel
theorem dX10_begin_0 : decode cX10_begin 0 = .ok (.aload_n 0, 1) := by decide +kernel
theorem dX10_begin_1 : decode cX10_begin 1 = .ok (.iload_n 1, 1) := by decide +kernel
theorem dX10_begin_2 : decode cX10_begin 2 = .ok (.putfield 118, 3) := by decide +kernel
theorem dX10_begin_5 : decode cX10_begin 5 = .ok (.aload_n 0, 1) := by decide +kernel
theorem dX10_begin_6 : decode cX10_begin 6 = .ok (.iconst 0, 1) := by decide +kernel
theorem dX10_begin_7 : decode cX10_begin 7 = .ok (.putfield 122, 3) := by decide +kernel
theorem dX10_begin_10 : decode cX10_begin 10 = .ok (.aload_n 0, 1) := by decide +kernel
theorem dX10_begin_11 : decode cX10_begin 11 = .ok (.iconst 0, 1) := by decide +kernel
theorem dX10_begin_12 : decode cX10_begin 12 = .ok (.putfield 125, 3) := by decide +kernel
theorem dX10_begin_15 : decode cX10_begin 15 = .ok (.iconst 0, 1) := by decide +kernel
theorem dX10_begin_16 : decode cX10_begin 16 = .ok (.istore_n 2, 1) := by decide +kernel
theorem dX10_begin_17 : decode cX10_begin 17 = .ok (.iload_n 2, 1) := by decide +kernel
theorem dX10_begin_18 : decode cX10_begin 18 = .ok (.bipush 8, 2) := by decide +kernel
theorem dX10_begin_20 : decode cX10_begin 20 = .ok (.if_icmp .ge 23, 3) := by decide +kernel
theorem dX10_begin_23 : decode cX10_begin 23 = .ok (.aload_n 0, 1) := by decide +kernel
theorem dX10_begin_24 : decode cX10_begin 24 = .ok (.getfield 25, 3) := by decide +kernel
theorem dX10_begin_27 : decode cX10_begin 27 = .ok (.iload_n 2, 1) := by decide +kernel
theorem dX10_begin_28 : decode cX10_begin 28 = .ok (.iconst 0, 1) := by decide +kernel
theorem dX10_begin_29 : decode cX10_begin 29 = .ok (.iastore, 1) := by decide +kernel
theorem dX10_begin_30 : decode cX10_begin 30 = .ok (.aload_n 0, 1) := by decide +kernel
theorem dX10_begin_31 : decode cX10_begin 31 = .ok (.getfield 28, 3) := by decide +kernel
theorem dX10_begin_34 : decode cX10_begin 34 = .ok (.iload_n 2, 1) := by decide +kernel
theorem dX10_begin_35 : decode cX10_begin 35 = .ok (.iconst 0, 1) := by decide +kernel
theorem dX10_begin_36 : decode cX10_begin 36 = .ok (.iastore, 1) := by decide +kernel
theorem dX10_begin_37 : decode cX10_begin 37 = .ok (.iinc 2 1, 3) := by decide +kernel
theorem dX10_begin_40 : decode cX10_begin 40 = .ok (.goto (-23), 3) := by decide +kernel
theorem dX10_begin_43 : decode cX10_begin 43 = .ok (.aload_n 0, 1) := by decide +kernel
theorem dX10_begin_44 : decode cX10_begin 44 = .ok (.iconst 0, 1) := by decide +kernel
theorem dX10_begin_45 : decode cX10_begin 45 = .ok (.putfield 128, 3) := by decide +kernel
theorem dX10_begin_48 : decode cX10_begin 48 = .ok (.return_, 1) := by decide +kernel
theorem dX10_reset_0 : decode cX10_reset 0 = .ok (.iload_n 1, 1) := by decide +kernel
theorem dX10_reset_1 : decode cX10_reset 1 = .ok (.iconst 2, 1) := by decide +kernel
theorem dX10_reset_2 : decode cX10_reset 2 = .ok (.bipush 8, 2) := by decide +kernel
theorem dX10_reset_4 : decode cX10_reset 4 = .ok (.invokestatic 132, 3) := by decide +kernel
theorem dX10_reset_7 : decode cX10_reset 7 = .ok (.ifCond .ne 7, 3) := by decide +kernel
theorem dX10_reset_10 : decode cX10_reset 10 = .ok (.sipush (-10002), 3) := by decide +kernel
theorem dX10_reset_13 : decode cX10_reset 13 = .ok (.ireturn, 1) := by decide +kernel
theorem dX10_reset_14 : decode cX10_reset 14 = .ok (.aload_n 0, 1) := by decide +kernel
theorem dX10_reset_15 : decode cX10_reset 15 = .ok (.getfield 118, 3) := by decide +kernel
theorem dX10_reset_18 : decode cX10_reset 18 = .ok (.istore_n 2, 1) := by decide +kernel
theorem dX10_reset_19 : decode cX10_reset 19 = .ok (.aload_n 0, 1) := by decide +kernel
theorem dX10_reset_20 : decode cX10_reset 20 = .ok (.iload_n 1, 1) := by decide +kernel
theorem dX10_reset_21 : decode cX10_reset 21 = .ok (.invokevirtual 102, 3) := by decide +kernel
theorem dX10_reset_24 : decode cX10_reset 24 = .ok (.iload_n 2, 1) := by decide +kernel
theorem dX10_reset_25 : decode cX10_reset 25 = .ok (.ireturn, 1) := by decide +kernel
theorem dX10_noNode_0 : decode cX10_noNode 0 = .ok (.iload_n 1, 1) := by decide +kernel
theorem dX10_noNode_1 : decode cX10_noNode 1 = .ok (.iconst 0, 1) := by decide +kernel
theorem dX10_noNode_2 : decode cX10_noNode 2 = .ok (.aload_n 0, 1) := by decide +kernel
theorem dX10_noNode_3 : decode cX10_noNode 3 = .ok (.getfield 118, 3) := by decide +kernel
theorem dX10_noNode_6 : decode cX10_noNode 6 = .ok (.iconst 1, 1) := by decide +kernel
theorem dX10_noNode_7 : decode cX10_noNode 7 = .ok (.isub, 1) := by decide +kernel
theorem dX10_noNode_8 : decode cX10_noNode 8 = .ok (.invokestatic 132, 3) := by decide +kernel
theorem dX10_noNode_11 : decode cX10_noNode 11 = .ok (.ifCond .ne 7, 3) := by decide +kernel
theorem dX10_noNode_14 : decode cX10_noNode 14 = .ok (.iconst 1, 1) := by decide +kernel
theorem dX10_noNode_15 : decode cX10_noNode 15 = .ok (.goto 4, 3) := by decide +kernel
theorem dX10_noNode_18 : decode cX10_noNode 18 = .ok (.iconst 0, 1) := by decide +kernel
theorem dX10_noNode_19 : decode cX10_noNode 19 = .ok (.ireturn, 1) := by decide +kernel
theorem dX10_noArc_0 : decode cX10_noArc 0 = .ok (.iload_n 1, 1) := by decide +kernel
theorem dX10_noArc_1 : decode cX10_noArc 1 = .ok (.iconst 0, 1) := by decide +kernel
theorem dX10_noArc_2 : decode cX10_noArc 2 = .ok (.aload_n 0, 1) := by decide +kernel
theorem dX10_noArc_3 : decode cX10_noArc 3 = .ok (.getfield 122, 3) := by decide +kernel
theorem dX10_noArc_6 : decode cX10_noArc 6 = .ok (.iconst 1, 1) := by decide +kernel
theorem dX10_noArc_7 : decode cX10_noArc 7 = .ok (.isub, 1) := by decide +kernel
theorem dX10_noArc_8 : decode cX10_noArc 8 = .ok (.invokestatic 132, 3) := by decide +kernel
theorem dX10_noArc_11 : decode cX10_noArc 11 = .ok (.ifCond .ne 7, 3) := by decide +kernel
theorem dX10_noArc_14 : decode cX10_noArc 14 = .ok (.iconst 1, 1) := by decide +kernel
theorem dX10_noArc_15 : decode cX10_noArc 15 = .ok (.goto 4, 3) := by decide +kernel
theorem dX10_noArc_18 : decode cX10_noArc 18 = .ok (.iconst 0, 1) := by decide +kernel
theorem dX10_noArc_19 : decode cX10_noArc 19 = .ok (.ireturn, 1) := by decide +kernel
theorem dX10_isCapacity_0 : decode cX10_isCapacity 0 = .ok (.iload_n 0, 1) := by decide +kernel
theorem dX10_isCapacity_1 : decode cX10_isCapacity 1 = .ok (.iconst 1, 1) := by decide +kernel
theorem dX10_isCapacity_2 : decode cX10_isCapacity 2 = .ok (.sipush 1000, 3) := by decide +kernel
theorem dX10_isCapacity_5 : decode cX10_isCapacity 5 = .ok (.invokestatic 132, 3) := by decide +kernel
theorem dX10_isCapacity_8 : decode cX10_isCapacity 8 = .ok (.ireturn, 1) := by decide +kernel
theorem dX10_isCost_0 : decode cX10_isCost 0 = .ok (.iload_n 0, 1) := by decide +kernel
theorem dX10_isCost_1 : decode cX10_isCost 1 = .ok (.bipush (-100), 2) := by decide +kernel
theorem dX10_isCost_3 : decode cX10_isCost 3 = .ok (.bipush 100, 2) := by decide +kernel
theorem dX10_isCost_5 : decode cX10_isCost 5 = .ok (.invokestatic 132, 3) := by decide +kernel
theorem dX10_isCost_8 : decode cX10_isCost 8 = .ok (.ireturn, 1) := by decide +kernel
theorem dX10_isSlope_0 : decode cX10_isSlope 0 = .ok (.iload_n 0, 1) := by decide +kernel
theorem dX10_isSlope_1 : decode cX10_isSlope 1 = .ok (.bipush (-20), 2) := by decide +kernel
theorem dX10_isSlope_3 : decode cX10_isSlope 3 = .ok (.bipush 20, 2) := by decide +kernel
theorem dX10_isSlope_5 : decode cX10_isSlope 5 = .ok (.invokestatic 132, 3) := by decide +kernel
theorem dX10_isSlope_8 : decode cX10_isSlope 8 = .ok (.ireturn, 1) := by decide +kernel
theorem dX10_addArc_0 : decode cX10_addArc 0 = .ok (.aload_n 0, 1) := by decide +kernel
theorem dX10_addArc_1 : decode cX10_addArc 1 = .ok (.iload_n 1, 1) := by decide +kernel
theorem dX10_addArc_2 : decode cX10_addArc 2 = .ok (.invokevirtual 136, 3) := by decide +kernel
theorem dX10_addArc_5 : decode cX10_addArc 5 = .ok (.ifCond .ne 11, 3) := by decide +kernel
theorem dX10_addArc_8 : decode cX10_addArc 8 = .ok (.aload_n 0, 1) := by decide +kernel
theorem dX10_addArc_9 : decode cX10_addArc 9 = .ok (.iload_n 2, 1) := by decide +kernel
theorem dX10_addArc_10 : decode cX10_addArc 10 = .ok (.invokevirtual 136, 3) := by decide +kernel
theorem dX10_addArc_13 : decode cX10_addArc 13 = .ok (.ifCond .eq 7, 3) := by decide +kernel
theorem dX10_addArc_16 : decode cX10_addArc 16 = .ok (.sipush (-10001), 3) := by decide +kernel
theorem dX10_addArc_19 : decode cX10_addArc 19 = .ok (.ireturn, 1) := by decide +kernel
theorem dX10_addArc_20 : decode cX10_addArc 20 = .ok (.iload_n 1, 1) := by decide +kernel
theorem dX10_addArc_21 : decode cX10_addArc 21 = .ok (.iload_n 2, 1) := by decide +kernel
theorem dX10_addArc_22 : decode cX10_addArc 22 = .ok (.if_icmp .eq 26, 3) := by decide +kernel
theorem dX10_addArc_25 : decode cX10_addArc 25 = .ok (.iload_n 3, 1) := by decide +kernel
theorem dX10_addArc_26 : decode cX10_addArc 26 = .ok (.invokestatic 140, 3) := by decide +kernel
theorem dX10_addArc_29 : decode cX10_addArc 29 = .ok (.ifCond .eq 19, 3) := by decide +kernel
theorem dX10_addArc_32 : decode cX10_addArc 32 = .ok (.iload 4, 2) := by decide +kernel
theorem dX10_addArc_34 : decode cX10_addArc 34 = .ok (.invokestatic 143, 3) := by decide +kernel
theorem dX10_addArc_37 : decode cX10_addArc 37 = .ok (.ifCond .eq 11, 3) := by decide +kernel
theorem dX10_addArc_40 : decode cX10_addArc 40 = .ok (.iload 5, 2) := by decide +kernel
theorem dX10_addArc_42 : decode cX10_addArc 42 = .ok (.invokestatic 146, 3) := by decide +kernel
theorem dX10_addArc_45 : decode cX10_addArc 45 = .ok (.ifCond .ne 7, 3) := by decide +kernel
theorem dX10_addArc_48 : decode cX10_addArc 48 = .ok (.sipush (-10002), 3) := by decide +kernel
theorem dX10_addArc_51 : decode cX10_addArc 51 = .ok (.ireturn, 1) := by decide +kernel
theorem dX10_addArc_52 : decode cX10_addArc 52 = .ok (.aload_n 0, 1) := by decide +kernel
theorem dX10_addArc_53 : decode cX10_addArc 53 = .ok (.getfield 122, 3) := by decide +kernel
theorem dX10_addArc_56 : decode cX10_addArc 56 = .ok (.bipush 20, 2) := by decide +kernel
theorem dX10_addArc_58 : decode cX10_addArc 58 = .ok (.if_icmp .ne 7, 3) := by decide +kernel
theorem dX10_addArc_61 : decode cX10_addArc 61 = .ok (.sipush (-10006), 3) := by decide +kernel
theorem dX10_addArc_64 : decode cX10_addArc 64 = .ok (.ireturn, 1) := by decide +kernel
theorem dX10_addArc_65 : decode cX10_addArc 65 = .ok (.aload_n 0, 1) := by decide +kernel
theorem dX10_addArc_66 : decode cX10_addArc 66 = .ok (.getfield 7, 3) := by decide +kernel
theorem dX10_addArc_69 : decode cX10_addArc 69 = .ok (.aload_n 0, 1) := by decide +kernel
theorem dX10_addArc_70 : decode cX10_addArc 70 = .ok (.getfield 122, 3) := by decide +kernel
theorem dX10_addArc_73 : decode cX10_addArc 73 = .ok (.iload_n 1, 1) := by decide +kernel
theorem dX10_addArc_74 : decode cX10_addArc 74 = .ok (.iastore, 1) := by decide +kernel
theorem dX10_addArc_75 : decode cX10_addArc 75 = .ok (.aload_n 0, 1) := by decide +kernel
theorem dX10_addArc_76 : decode cX10_addArc 76 = .ok (.getfield 13, 3) := by decide +kernel
theorem dX10_addArc_79 : decode cX10_addArc 79 = .ok (.aload_n 0, 1) := by decide +kernel
theorem dX10_addArc_80 : decode cX10_addArc 80 = .ok (.getfield 122, 3) := by decide +kernel
theorem dX10_addArc_83 : decode cX10_addArc 83 = .ok (.iload_n 2, 1) := by decide +kernel
theorem dX10_addArc_84 : decode cX10_addArc 84 = .ok (.iastore, 1) := by decide +kernel
theorem dX10_addArc_85 : decode cX10_addArc 85 = .ok (.aload_n 0, 1) := by decide +kernel
theorem dX10_addArc_86 : decode cX10_addArc 86 = .ok (.getfield 16, 3) := by decide +kernel
theorem dX10_addArc_89 : decode cX10_addArc 89 = .ok (.aload_n 0, 1) := by decide +kernel
theorem dX10_addArc_90 : decode cX10_addArc 90 = .ok (.getfield 122, 3) := by decide +kernel
theorem dX10_addArc_93 : decode cX10_addArc 93 = .ok (.iload_n 3, 1) := by decide +kernel
theorem dX10_addArc_94 : decode cX10_addArc 94 = .ok (.iastore, 1) := by decide +kernel
theorem dX10_addArc_95 : decode cX10_addArc 95 = .ok (.aload_n 0, 1) := by decide +kernel
theorem dX10_addArc_96 : decode cX10_addArc 96 = .ok (.getfield 19, 3) := by decide +kernel
theorem dX10_addArc_99 : decode cX10_addArc 99 = .ok (.aload_n 0, 1) := by decide +kernel
theorem dX10_addArc_100 : decode cX10_addArc 100 = .ok (.getfield 122, 3) := by decide +kernel
theorem dX10_addArc_103 : decode cX10_addArc 103 = .ok (.iload 4, 2) := by decide +kernel
theorem dX10_addArc_105 : decode cX10_addArc 105 = .ok (.iastore, 1) := by decide +kernel
theorem dX10_addArc_106 : decode cX10_addArc 106 = .ok (.aload_n 0, 1) := by decide +kernel
theorem dX10_addArc_107 : decode cX10_addArc 107 = .ok (.getfield 22, 3) := by decide +kernel
theorem dX10_addArc_110 : decode cX10_addArc 110 = .ok (.aload_n 0, 1) := by decide +kernel
theorem dX10_addArc_111 : decode cX10_addArc 111 = .ok (.getfield 122, 3) := by decide +kernel
theorem dX10_addArc_114 : decode cX10_addArc 114 = .ok (.iload 5, 2) := by decide +kernel
theorem dX10_addArc_116 : decode cX10_addArc 116 = .ok (.iastore, 1) := by decide +kernel
theorem dX10_addArc_117 : decode cX10_addArc 117 = .ok (.aload_n 0, 1) := by decide +kernel
theorem dX10_addArc_118 : decode cX10_addArc 118 = .ok (.dup, 1) := by decide +kernel
theorem dX10_addArc_119 : decode cX10_addArc 119 = .ok (.getfield 122, 3) := by decide +kernel
theorem dX10_addArc_122 : decode cX10_addArc 122 = .ok (.iconst 1, 1) := by decide +kernel
theorem dX10_addArc_123 : decode cX10_addArc 123 = .ok (.iadd, 1) := by decide +kernel
theorem dX10_addArc_124 : decode cX10_addArc 124 = .ok (.putfield 122, 3) := by decide +kernel
theorem dX10_addArc_127 : decode cX10_addArc 127 = .ok (.aload_n 0, 1) := by decide +kernel
theorem dX10_addArc_128 : decode cX10_addArc 128 = .ok (.iconst 0, 1) := by decide +kernel
theorem dX10_addArc_129 : decode cX10_addArc 129 = .ok (.putfield 128, 3) := by decide +kernel
theorem dX10_addArc_132 : decode cX10_addArc 132 = .ok (.aload_n 0, 1) := by decide +kernel
theorem dX10_addArc_133 : decode cX10_addArc 133 = .ok (.getfield 122, 3) := by decide +kernel
theorem dX10_addArc_136 : decode cX10_addArc 136 = .ok (.iconst 1, 1) := by decide +kernel
theorem dX10_addArc_137 : decode cX10_addArc 137 = .ok (.isub, 1) := by decide +kernel
theorem dX10_addArc_138 : decode cX10_addArc 138 = .ok (.ireturn, 1) := by decide +kernel
theorem dX10_removeArc_0 : decode cX10_removeArc 0 = .ok (.aload_n 0, 1) := by decide +kernel
theorem dX10_removeArc_1 : decode cX10_removeArc 1 = .ok (.getfield 122, 3) := by decide +kernel
theorem dX10_removeArc_4 : decode cX10_removeArc 4 = .ok (.ifCond .ne 7, 3) := by decide +kernel
theorem dX10_removeArc_7 : decode cX10_removeArc 7 = .ok (.sipush (-10007), 3) := by decide +kernel
theorem dX10_removeArc_10 : decode cX10_removeArc 10 = .ok (.ireturn, 1) := by decide +kernel
theorem dX10_removeArc_11 : decode cX10_removeArc 11 = .ok (.aload_n 0, 1) := by decide +kernel
theorem dX10_removeArc_12 : decode cX10_removeArc 12 = .ok (.dup, 1) := by decide +kernel
theorem dX10_removeArc_13 : decode cX10_removeArc 13 = .ok (.getfield 122, 3) := by decide +kernel
theorem dX10_removeArc_16 : decode cX10_removeArc 16 = .ok (.iconst 1, 1) := by decide +kernel
theorem dX10_removeArc_17 : decode cX10_removeArc 17 = .ok (.isub, 1) := by decide +kernel
theorem dX10_removeArc_18 : decode cX10_removeArc 18 = .ok (.putfield 122, 3) := by decide +kernel
theorem dX10_removeArc_21 : decode cX10_removeArc 21 = .ok (.aload_n 0, 1) := by decide +kernel
theorem dX10_removeArc_22 : decode cX10_removeArc 22 = .ok (.iconst 0, 1) := by decide +kernel
theorem dX10_removeArc_23 : decode cX10_removeArc 23 = .ok (.putfield 128, 3) := by decide +kernel
theorem dX10_removeArc_26 : decode cX10_removeArc 26 = .ok (.aload_n 0, 1) := by decide +kernel
theorem dX10_removeArc_27 : decode cX10_removeArc 27 = .ok (.getfield 122, 3) := by decide +kernel
theorem dX10_removeArc_30 : decode cX10_removeArc 30 = .ok (.ireturn, 1) := by decide +kernel
theorem dX10_setArc_0 : decode cX10_setArc 0 = .ok (.aload_n 0, 1) := by decide +kernel
theorem dX10_setArc_1 : decode cX10_setArc 1 = .ok (.iload_n 1, 1) := by decide +kernel
theorem dX10_setArc_2 : decode cX10_setArc 2 = .ok (.invokevirtual 149, 3) := by decide +kernel
theorem dX10_setArc_5 : decode cX10_setArc 5 = .ok (.ifCond .eq 7, 3) := by decide +kernel
theorem dX10_setArc_8 : decode cX10_setArc 8 = .ok (.sipush (-10001), 3) := by decide +kernel
theorem dX10_setArc_11 : decode cX10_setArc 11 = .ok (.ireturn, 1) := by decide +kernel
theorem dX10_setArc_12 : decode cX10_setArc 12 = .ok (.iload_n 2, 1) := by decide +kernel
theorem dX10_setArc_13 : decode cX10_setArc 13 = .ok (.iconst 0, 1) := by decide +kernel
theorem dX10_setArc_14 : decode cX10_setArc 14 = .ok (.iconst 2, 1) := by decide +kernel
theorem dX10_setArc_15 : decode cX10_setArc 15 = .ok (.invokestatic 132, 3) := by decide +kernel
theorem dX10_setArc_18 : decode cX10_setArc 18 = .ok (.ifCond .eq 39, 3) := by decide +kernel
theorem dX10_setArc_21 : decode cX10_setArc 21 = .ok (.iload_n 2, 1) := by decide +kernel
theorem dX10_setArc_22 : decode cX10_setArc 22 = .ok (.ifCond .ne 13, 3) := by decide +kernel
theorem dX10_setArc_25 : decode cX10_setArc 25 = .ok (.iload_n 3, 1) := by decide +kernel
theorem dX10_setArc_26 : decode cX10_setArc 26 = .ok (.invokestatic 140, 3) := by decide +kernel
theorem dX10_setArc_29 : decode cX10_setArc 29 = .ok (.ifCond .eq 28, 3) := by decide +kernel
theorem dX10_setArc_32 : decode cX10_setArc 32 = .ok (.goto 29, 3) := by decide +kernel
theorem dX10_setArc_35 : decode cX10_setArc 35 = .ok (.iload_n 2, 1) := by decide +kernel
theorem dX10_setArc_36 : decode cX10_setArc 36 = .ok (.iconst 1, 1) := by decide +kernel
theorem dX10_setArc_37 : decode cX10_setArc 37 = .ok (.if_icmp .ne 13, 3) := by decide +kernel
theorem dX10_setArc_40 : decode cX10_setArc 40 = .ok (.iload_n 3, 1) := by decide +kernel
theorem dX10_setArc_41 : decode cX10_setArc 41 = .ok (.invokestatic 143, 3) := by decide +kernel
theorem dX10_setArc_44 : decode cX10_setArc 44 = .ok (.ifCond .eq 13, 3) := by decide +kernel
theorem dX10_setArc_47 : decode cX10_setArc 47 = .ok (.goto 14, 3) := by decide +kernel
theorem dX10_setArc_50 : decode cX10_setArc 50 = .ok (.iload_n 3, 1) := by decide +kernel
theorem dX10_setArc_51 : decode cX10_setArc 51 = .ok (.invokestatic 146, 3) := by decide +kernel
theorem dX10_setArc_54 : decode cX10_setArc 54 = .ok (.ifCond .ne 7, 3) := by decide +kernel
theorem dX10_setArc_57 : decode cX10_setArc 57 = .ok (.sipush (-10002), 3) := by decide +kernel
theorem dX10_setArc_60 : decode cX10_setArc 60 = .ok (.ireturn, 1) := by decide +kernel
theorem dX10_setArc_61 : decode cX10_setArc 61 = .ok (.iload_n 2, 1) := by decide +kernel
theorem dX10_setArc_62 : decode cX10_setArc 62 = .ok (.ifCond .ne 12, 3) := by decide +kernel
theorem dX10_setArc_65 : decode cX10_setArc 65 = .ok (.aload_n 0, 1) := by decide +kernel
theorem dX10_setArc_66 : decode cX10_setArc 66 = .ok (.getfield 16, 3) := by decide +kernel
theorem dX10_setArc_69 : decode cX10_setArc 69 = .ok (.iload_n 1, 1) := by decide +kernel
theorem dX10_setArc_70 : decode cX10_setArc 70 = .ok (.iaload, 1) := by decide +kernel
theorem dX10_setArc_71 : decode cX10_setArc 71 = .ok (.goto 23, 3) := by decide +kernel
theorem dX10_setArc_74 : decode cX10_setArc 74 = .ok (.iload_n 2, 1) := by decide +kernel
theorem dX10_setArc_75 : decode cX10_setArc 75 = .ok (.iconst 1, 1) := by decide +kernel
theorem dX10_setArc_76 : decode cX10_setArc 76 = .ok (.if_icmp .ne 12, 3) := by decide +kernel
theorem dX10_setArc_79 : decode cX10_setArc 79 = .ok (.aload_n 0, 1) := by decide +kernel
theorem dX10_setArc_80 : decode cX10_setArc 80 = .ok (.getfield 19, 3) := by decide +kernel
theorem dX10_setArc_83 : decode cX10_setArc 83 = .ok (.iload_n 1, 1) := by decide +kernel
theorem dX10_setArc_84 : decode cX10_setArc 84 = .ok (.iaload, 1) := by decide +kernel
theorem dX10_setArc_85 : decode cX10_setArc 85 = .ok (.goto 9, 3) := by decide +kernel
theorem dX10_setArc_88 : decode cX10_setArc 88 = .ok (.aload_n 0, 1) := by decide +kernel
theorem dX10_setArc_89 : decode cX10_setArc 89 = .ok (.getfield 22, 3) := by decide +kernel
theorem dX10_setArc_92 : decode cX10_setArc 92 = .ok (.iload_n 1, 1) := by decide +kernel
theorem dX10_setArc_93 : decode cX10_setArc 93 = .ok (.iaload, 1) := by decide +kernel
theorem dX10_setArc_94 : decode cX10_setArc 94 = .ok (.istore 4, 2) := by decide +kernel
theorem dX10_setArc_96 : decode cX10_setArc 96 = .ok (.aload_n 0, 1) := by decide +kernel
theorem dX10_setArc_97 : decode cX10_setArc 97 = .ok (.getfield 16, 3) := by decide +kernel
theorem dX10_setArc_100 : decode cX10_setArc 100 = .ok (.iload_n 1, 1) := by decide +kernel
theorem dX10_setArc_101 : decode cX10_setArc 101 = .ok (.iload_n 2, 1) := by decide +kernel
theorem dX10_setArc_102 : decode cX10_setArc 102 = .ok (.ifCond .ne 7, 3) := by decide +kernel
theorem dX10_setArc_105 : decode cX10_setArc 105 = .ok (.iload_n 3, 1) := by decide +kernel
theorem dX10_setArc_106 : decode cX10_setArc 106 = .ok (.goto 9, 3) := by decide +kernel
theorem dX10_setArc_109 : decode cX10_setArc 109 = .ok (.aload_n 0, 1) := by decide +kernel
theorem dX10_setArc_110 : decode cX10_setArc 110 = .ok (.getfield 16, 3) := by decide +kernel
theorem dX10_setArc_113 : decode cX10_setArc 113 = .ok (.iload_n 1, 1) := by decide +kernel
theorem dX10_setArc_114 : decode cX10_setArc 114 = .ok (.iaload, 1) := by decide +kernel
theorem dX10_setArc_115 : decode cX10_setArc 115 = .ok (.iastore, 1) := by decide +kernel
theorem dX10_setArc_116 : decode cX10_setArc 116 = .ok (.aload_n 0, 1) := by decide +kernel
theorem dX10_setArc_117 : decode cX10_setArc 117 = .ok (.getfield 19, 3) := by decide +kernel
theorem dX10_setArc_120 : decode cX10_setArc 120 = .ok (.iload_n 1, 1) := by decide +kernel
theorem dX10_setArc_121 : decode cX10_setArc 121 = .ok (.iload_n 2, 1) := by decide +kernel
theorem dX10_setArc_122 : decode cX10_setArc 122 = .ok (.iconst 1, 1) := by decide +kernel
theorem dX10_setArc_123 : decode cX10_setArc 123 = .ok (.if_icmp .ne 7, 3) := by decide +kernel
theorem dX10_setArc_126 : decode cX10_setArc 126 = .ok (.iload_n 3, 1) := by decide +kernel
theorem dX10_setArc_127 : decode cX10_setArc 127 = .ok (.goto 9, 3) := by decide +kernel
theorem dX10_setArc_130 : decode cX10_setArc 130 = .ok (.aload_n 0, 1) := by decide +kernel
theorem dX10_setArc_131 : decode cX10_setArc 131 = .ok (.getfield 19, 3) := by decide +kernel
theorem dX10_setArc_134 : decode cX10_setArc 134 = .ok (.iload_n 1, 1) := by decide +kernel
theorem dX10_setArc_135 : decode cX10_setArc 135 = .ok (.iaload, 1) := by decide +kernel
theorem dX10_setArc_136 : decode cX10_setArc 136 = .ok (.iastore, 1) := by decide +kernel
theorem dX10_setArc_137 : decode cX10_setArc 137 = .ok (.aload_n 0, 1) := by decide +kernel
theorem dX10_setArc_138 : decode cX10_setArc 138 = .ok (.getfield 22, 3) := by decide +kernel
theorem dX10_setArc_141 : decode cX10_setArc 141 = .ok (.iload_n 1, 1) := by decide +kernel
theorem dX10_setArc_142 : decode cX10_setArc 142 = .ok (.iload_n 2, 1) := by decide +kernel
theorem dX10_setArc_143 : decode cX10_setArc 143 = .ok (.iconst 2, 1) := by decide +kernel
theorem dX10_setArc_144 : decode cX10_setArc 144 = .ok (.if_icmp .ne 7, 3) := by decide +kernel
theorem dX10_setArc_147 : decode cX10_setArc 147 = .ok (.iload_n 3, 1) := by decide +kernel
theorem dX10_setArc_148 : decode cX10_setArc 148 = .ok (.goto 9, 3) := by decide +kernel
theorem dX10_setArc_151 : decode cX10_setArc 151 = .ok (.aload_n 0, 1) := by decide +kernel
theorem dX10_setArc_152 : decode cX10_setArc 152 = .ok (.getfield 22, 3) := by decide +kernel
theorem dX10_setArc_155 : decode cX10_setArc 155 = .ok (.iload_n 1, 1) := by decide +kernel
theorem dX10_setArc_156 : decode cX10_setArc 156 = .ok (.iaload, 1) := by decide +kernel
theorem dX10_setArc_157 : decode cX10_setArc 157 = .ok (.iastore, 1) := by decide +kernel
theorem dX10_setArc_158 : decode cX10_setArc 158 = .ok (.aload_n 0, 1) := by decide +kernel
theorem dX10_setArc_159 : decode cX10_setArc 159 = .ok (.iconst 0, 1) := by decide +kernel
theorem dX10_setArc_160 : decode cX10_setArc 160 = .ok (.putfield 128, 3) := by decide +kernel
theorem dX10_setArc_163 : decode cX10_setArc 163 = .ok (.iload 4, 2) := by decide +kernel
theorem dX10_setArc_165 : decode cX10_setArc 165 = .ok (.ireturn, 1) := by decide +kernel
theorem dX10_setSupply_0 : decode cX10_setSupply 0 = .ok (.aload_n 0, 1) := by decide +kernel
theorem dX10_setSupply_1 : decode cX10_setSupply 1 = .ok (.iload_n 1, 1) := by decide +kernel
theorem dX10_setSupply_2 : decode cX10_setSupply 2 = .ok (.invokevirtual 136, 3) := by decide +kernel
theorem dX10_setSupply_5 : decode cX10_setSupply 5 = .ok (.ifCond .eq 7, 3) := by decide +kernel
theorem dX10_setSupply_8 : decode cX10_setSupply 8 = .ok (.sipush (-10001), 3) := by decide +kernel
theorem dX10_setSupply_11 : decode cX10_setSupply 11 = .ok (.ireturn, 1) := by decide +kernel
theorem dX10_setSupply_12 : decode cX10_setSupply 12 = .ok (.iload_n 2, 1) := by decide +kernel
theorem dX10_setSupply_13 : decode cX10_setSupply 13 = .ok (.sipush (-500), 3) := by decide +kernel
theorem dX10_setSupply_16 : decode cX10_setSupply 16 = .ok (.sipush 500, 3) := by decide +kernel
theorem dX10_setSupply_19 : decode cX10_setSupply 19 = .ok (.invokestatic 132, 3) := by decide +kernel
theorem dX10_setSupply_22 : decode cX10_setSupply 22 = .ok (.ifCond .eq 10, 3) := by decide +kernel
theorem dX10_setSupply_25 : decode cX10_setSupply 25 = .ok (.iload_n 3, 1) := by decide +kernel
theorem dX10_setSupply_26 : decode cX10_setSupply 26 = .ok (.invokestatic 146, 3) := by decide +kernel
theorem dX10_setSupply_29 : decode cX10_setSupply 29 = .ok (.ifCond .ne 7, 3) := by decide +kernel
theorem dX10_setSupply_32 : decode cX10_setSupply 32 = .ok (.sipush (-10002), 3) := by decide +kernel
theorem dX10_setSupply_35 : decode cX10_setSupply 35 = .ok (.ireturn, 1) := by decide +kernel
theorem dX10_setSupply_36 : decode cX10_setSupply 36 = .ok (.aload_n 0, 1) := by decide +kernel
theorem dX10_setSupply_37 : decode cX10_setSupply 37 = .ok (.getfield 25, 3) := by decide +kernel
theorem dX10_setSupply_40 : decode cX10_setSupply 40 = .ok (.iload_n 1, 1) := by decide +kernel
theorem dX10_setSupply_41 : decode cX10_setSupply 41 = .ok (.iaload, 1) := by decide +kernel
theorem dX10_setSupply_42 : decode cX10_setSupply 42 = .ok (.iload_n 2, 1) := by decide +kernel
theorem dX10_setSupply_43 : decode cX10_setSupply 43 = .ok (.if_icmp .ne 13, 3) := by decide +kernel
theorem dX10_setSupply_46 : decode cX10_setSupply 46 = .ok (.aload_n 0, 1) := by decide +kernel
theorem dX10_setSupply_47 : decode cX10_setSupply 47 = .ok (.getfield 28, 3) := by decide +kernel
theorem dX10_setSupply_50 : decode cX10_setSupply 50 = .ok (.iload_n 1, 1) := by decide +kernel
theorem dX10_setSupply_51 : decode cX10_setSupply 51 = .ok (.iaload, 1) := by decide +kernel
theorem dX10_setSupply_52 : decode cX10_setSupply 52 = .ok (.iload_n 3, 1) := by decide +kernel
theorem dX10_setSupply_53 : decode cX10_setSupply 53 = .ok (.if_icmp .eq 7, 3) := by decide +kernel
theorem dX10_setSupply_56 : decode cX10_setSupply 56 = .ok (.iconst 1, 1) := by decide +kernel
theorem dX10_setSupply_57 : decode cX10_setSupply 57 = .ok (.goto 4, 3) := by decide +kernel
theorem dX10_setSupply_60 : decode cX10_setSupply 60 = .ok (.iconst 0, 1) := by decide +kernel
theorem dX10_setSupply_61 : decode cX10_setSupply 61 = .ok (.istore 4, 2) := by decide +kernel
theorem dX10_setSupply_63 : decode cX10_setSupply 63 = .ok (.aload_n 0, 1) := by decide +kernel
theorem dX10_setSupply_64 : decode cX10_setSupply 64 = .ok (.getfield 25, 3) := by decide +kernel
theorem dX10_setSupply_67 : decode cX10_setSupply 67 = .ok (.iload_n 1, 1) := by decide +kernel
theorem dX10_setSupply_68 : decode cX10_setSupply 68 = .ok (.iload_n 2, 1) := by decide +kernel
theorem dX10_setSupply_69 : decode cX10_setSupply 69 = .ok (.iastore, 1) := by decide +kernel
theorem dX10_setSupply_70 : decode cX10_setSupply 70 = .ok (.aload_n 0, 1) := by decide +kernel
theorem dX10_setSupply_71 : decode cX10_setSupply 71 = .ok (.getfield 28, 3) := by decide +kernel
theorem dX10_setSupply_74 : decode cX10_setSupply 74 = .ok (.iload_n 1, 1) := by decide +kernel
theorem dX10_setSupply_75 : decode cX10_setSupply 75 = .ok (.iload_n 3, 1) := by decide +kernel
theorem dX10_setSupply_76 : decode cX10_setSupply 76 = .ok (.iastore, 1) := by decide +kernel
theorem dX10_setSupply_77 : decode cX10_setSupply 77 = .ok (.aload_n 0, 1) := by decide +kernel
theorem dX10_setSupply_78 : decode cX10_setSupply 78 = .ok (.iconst 0, 1) := by decide +kernel
theorem dX10_setSupply_79 : decode cX10_setSupply 79 = .ok (.putfield 128, 3) := by decide +kernel
theorem dX10_setSupply_82 : decode cX10_setSupply 82 = .ok (.iload 4, 2) := by decide +kernel
theorem dX10_setSupply_84 : decode cX10_setSupply 84 = .ok (.ireturn, 1) := by decide +kernel
theorem dX10_setMode_0 : decode cX10_setMode 0 = .ok (.iload_n 1, 1) := by decide +kernel
theorem dX10_setMode_1 : decode cX10_setMode 1 = .ok (.iconst 0, 1) := by decide +kernel
theorem dX10_setMode_2 : decode cX10_setMode 2 = .ok (.iconst 1, 1) := by decide +kernel
theorem dX10_setMode_3 : decode cX10_setMode 3 = .ok (.invokestatic 132, 3) := by decide +kernel
theorem dX10_setMode_6 : decode cX10_setMode 6 = .ok (.ifCond .ne 7, 3) := by decide +kernel
theorem dX10_setMode_9 : decode cX10_setMode 9 = .ok (.sipush (-10002), 3) := by decide +kernel
theorem dX10_setMode_12 : decode cX10_setMode 12 = .ok (.ireturn, 1) := by decide +kernel
theorem dX10_setMode_13 : decode cX10_setMode 13 = .ok (.aload_n 0, 1) := by decide +kernel
theorem dX10_setMode_14 : decode cX10_setMode 14 = .ok (.getfield 125, 3) := by decide +kernel
theorem dX10_setMode_17 : decode cX10_setMode 17 = .ok (.istore_n 2, 1) := by decide +kernel
theorem dX10_setMode_18 : decode cX10_setMode 18 = .ok (.aload_n 0, 1) := by decide +kernel
theorem dX10_setMode_19 : decode cX10_setMode 19 = .ok (.iload_n 1, 1) := by decide +kernel
theorem dX10_setMode_20 : decode cX10_setMode 20 = .ok (.putfield 125, 3) := by decide +kernel
theorem dX10_setMode_23 : decode cX10_setMode 23 = .ok (.aload_n 0, 1) := by decide +kernel
theorem dX10_setMode_24 : decode cX10_setMode 24 = .ok (.iconst 0, 1) := by decide +kernel
theorem dX10_setMode_25 : decode cX10_setMode 25 = .ok (.putfield 128, 3) := by decide +kernel
theorem dX10_setMode_28 : decode cX10_setMode 28 = .ok (.iload_n 2, 1) := by decide +kernel
theorem dX10_setMode_29 : decode cX10_setMode 29 = .ok (.ireturn, 1) := by decide +kernel
theorem dX10_arc_0 : decode cX10_arc 0 = .ok (.aload_n 0, 1) := by decide +kernel
theorem dX10_arc_1 : decode cX10_arc 1 = .ok (.iload_n 1, 1) := by decide +kernel
theorem dX10_arc_2 : decode cX10_arc 2 = .ok (.invokevirtual 149, 3) := by decide +kernel
theorem dX10_arc_5 : decode cX10_arc 5 = .ok (.ifCond .eq 7, 3) := by decide +kernel
theorem dX10_arc_8 : decode cX10_arc 8 = .ok (.sipush (-10001), 3) := by decide +kernel
theorem dX10_arc_11 : decode cX10_arc 11 = .ok (.ireturn, 1) := by decide +kernel
theorem dX10_arc_12 : decode cX10_arc 12 = .ok (.iload_n 2, 1) := by decide +kernel
theorem dX10_arc_13 : decode cX10_arc 13 = .ok (.tableswitch 70 0 4 #[35, 42, 49, 56, 63], 35) := by decide +kernel
theorem dX10_arc_48 : decode cX10_arc 48 = .ok (.aload_n 0, 1) := by decide +kernel
theorem dX10_arc_49 : decode cX10_arc 49 = .ok (.getfield 7, 3) := by decide +kernel
theorem dX10_arc_52 : decode cX10_arc 52 = .ok (.iload_n 1, 1) := by decide +kernel
theorem dX10_arc_53 : decode cX10_arc 53 = .ok (.iaload, 1) := by decide +kernel
theorem dX10_arc_54 : decode cX10_arc 54 = .ok (.ireturn, 1) := by decide +kernel
theorem dX10_arc_55 : decode cX10_arc 55 = .ok (.aload_n 0, 1) := by decide +kernel
theorem dX10_arc_56 : decode cX10_arc 56 = .ok (.getfield 13, 3) := by decide +kernel
theorem dX10_arc_59 : decode cX10_arc 59 = .ok (.iload_n 1, 1) := by decide +kernel
theorem dX10_arc_60 : decode cX10_arc 60 = .ok (.iaload, 1) := by decide +kernel
theorem dX10_arc_61 : decode cX10_arc 61 = .ok (.ireturn, 1) := by decide +kernel
theorem dX10_arc_62 : decode cX10_arc 62 = .ok (.aload_n 0, 1) := by decide +kernel
theorem dX10_arc_63 : decode cX10_arc 63 = .ok (.getfield 16, 3) := by decide +kernel
theorem dX10_arc_66 : decode cX10_arc 66 = .ok (.iload_n 1, 1) := by decide +kernel
theorem dX10_arc_67 : decode cX10_arc 67 = .ok (.iaload, 1) := by decide +kernel
theorem dX10_arc_68 : decode cX10_arc 68 = .ok (.ireturn, 1) := by decide +kernel
theorem dX10_arc_69 : decode cX10_arc 69 = .ok (.aload_n 0, 1) := by decide +kernel
theorem dX10_arc_70 : decode cX10_arc 70 = .ok (.getfield 19, 3) := by decide +kernel
theorem dX10_arc_73 : decode cX10_arc 73 = .ok (.iload_n 1, 1) := by decide +kernel
theorem dX10_arc_74 : decode cX10_arc 74 = .ok (.iaload, 1) := by decide +kernel
theorem dX10_arc_75 : decode cX10_arc 75 = .ok (.ireturn, 1) := by decide +kernel
theorem dX10_arc_76 : decode cX10_arc 76 = .ok (.aload_n 0, 1) := by decide +kernel
theorem dX10_arc_77 : decode cX10_arc 77 = .ok (.getfield 22, 3) := by decide +kernel
theorem dX10_arc_80 : decode cX10_arc 80 = .ok (.iload_n 1, 1) := by decide +kernel
theorem dX10_arc_81 : decode cX10_arc 81 = .ok (.iaload, 1) := by decide +kernel
theorem dX10_arc_82 : decode cX10_arc 82 = .ok (.ireturn, 1) := by decide +kernel
theorem dX10_arc_83 : decode cX10_arc 83 = .ok (.sipush (-10002), 3) := by decide +kernel
theorem dX10_arc_86 : decode cX10_arc 86 = .ok (.ireturn, 1) := by decide +kernel
theorem dX10_sumOf_0 : decode cX10_sumOf 0 = .ok (.iconst 0, 1) := by decide +kernel
theorem dX10_sumOf_1 : decode cX10_sumOf 1 = .ok (.istore_n 2, 1) := by decide +kernel
theorem dX10_sumOf_2 : decode cX10_sumOf 2 = .ok (.iconst 0, 1) := by decide +kernel
theorem dX10_sumOf_3 : decode cX10_sumOf 3 = .ok (.istore_n 3, 1) := by decide +kernel
theorem dX10_sumOf_4 : decode cX10_sumOf 4 = .ok (.iload_n 3, 1) := by decide +kernel
theorem dX10_sumOf_5 : decode cX10_sumOf 5 = .ok (.aload_n 0, 1) := by decide +kernel
theorem dX10_sumOf_6 : decode cX10_sumOf 6 = .ok (.getfield 118, 3) := by decide +kernel
theorem dX10_sumOf_9 : decode cX10_sumOf 9 = .ok (.if_icmp .ge 31, 3) := by decide +kernel
theorem dX10_sumOf_12 : decode cX10_sumOf 12 = .ok (.iload_n 2, 1) := by decide +kernel
theorem dX10_sumOf_13 : decode cX10_sumOf 13 = .ok (.iload_n 1, 1) := by decide +kernel
theorem dX10_sumOf_14 : decode cX10_sumOf 14 = .ok (.ifCond .eq 12, 3) := by decide +kernel
theorem dX10_sumOf_17 : decode cX10_sumOf 17 = .ok (.aload_n 0, 1) := by decide +kernel
theorem dX10_sumOf_18 : decode cX10_sumOf 18 = .ok (.getfield 28, 3) := by decide +kernel
theorem dX10_sumOf_21 : decode cX10_sumOf 21 = .ok (.iload_n 3, 1) := by decide +kernel
theorem dX10_sumOf_22 : decode cX10_sumOf 22 = .ok (.iaload, 1) := by decide +kernel
theorem dX10_sumOf_23 : decode cX10_sumOf 23 = .ok (.goto 9, 3) := by decide +kernel
theorem dX10_sumOf_26 : decode cX10_sumOf 26 = .ok (.aload_n 0, 1) := by decide +kernel
theorem dX10_sumOf_27 : decode cX10_sumOf 27 = .ok (.getfield 25, 3) := by decide +kernel
theorem dX10_sumOf_30 : decode cX10_sumOf 30 = .ok (.iload_n 3, 1) := by decide +kernel
theorem dX10_sumOf_31 : decode cX10_sumOf 31 = .ok (.iaload, 1) := by decide +kernel
theorem dX10_sumOf_32 : decode cX10_sumOf 32 = .ok (.iadd, 1) := by decide +kernel
theorem dX10_sumOf_33 : decode cX10_sumOf 33 = .ok (.istore_n 2, 1) := by decide +kernel
theorem dX10_sumOf_34 : decode cX10_sumOf 34 = .ok (.iinc 3 1, 3) := by decide +kernel
theorem dX10_sumOf_37 : decode cX10_sumOf 37 = .ok (.goto (-33), 3) := by decide +kernel
theorem dX10_sumOf_40 : decode cX10_sumOf 40 = .ok (.iload_n 2, 1) := by decide +kernel
theorem dX10_sumOf_41 : decode cX10_sumOf 41 = .ok (.ireturn, 1) := by decide +kernel
theorem dX10_network_0 : decode cX10_network 0 = .ok (.iload_n 1, 1) := by decide +kernel
theorem dX10_network_1 : decode cX10_network 1 = .ok (.tableswitch 79 0 5 #[39, 44, 49, 54, 60, 66], 39) := by decide +kernel
theorem dX10_network_40 : decode cX10_network 40 = .ok (.aload_n 0, 1) := by decide +kernel
theorem dX10_network_41 : decode cX10_network 41 = .ok (.getfield 118, 3) := by decide +kernel
theorem dX10_network_44 : decode cX10_network 44 = .ok (.ireturn, 1) := by decide +kernel
theorem dX10_network_45 : decode cX10_network 45 = .ok (.aload_n 0, 1) := by decide +kernel
theorem dX10_network_46 : decode cX10_network 46 = .ok (.getfield 122, 3) := by decide +kernel
theorem dX10_network_49 : decode cX10_network 49 = .ok (.ireturn, 1) := by decide +kernel
theorem dX10_network_50 : decode cX10_network 50 = .ok (.aload_n 0, 1) := by decide +kernel
theorem dX10_network_51 : decode cX10_network 51 = .ok (.getfield 125, 3) := by decide +kernel
theorem dX10_network_54 : decode cX10_network 54 = .ok (.ireturn, 1) := by decide +kernel
theorem dX10_network_55 : decode cX10_network 55 = .ok (.aload_n 0, 1) := by decide +kernel
theorem dX10_network_56 : decode cX10_network 56 = .ok (.iconst 0, 1) := by decide +kernel
theorem dX10_network_57 : decode cX10_network 57 = .ok (.invokevirtual 152, 3) := by decide +kernel
theorem dX10_network_60 : decode cX10_network 60 = .ok (.ireturn, 1) := by decide +kernel
theorem dX10_network_61 : decode cX10_network 61 = .ok (.aload_n 0, 1) := by decide +kernel
theorem dX10_network_62 : decode cX10_network 62 = .ok (.iconst 1, 1) := by decide +kernel
theorem dX10_network_63 : decode cX10_network 63 = .ok (.invokevirtual 152, 3) := by decide +kernel
theorem dX10_network_66 : decode cX10_network 66 = .ok (.ireturn, 1) := by decide +kernel
theorem dX10_network_67 : decode cX10_network 67 = .ok (.aload_n 0, 1) := by decide +kernel
theorem dX10_network_68 : decode cX10_network 68 = .ok (.getfield 128, 3) := by decide +kernel
theorem dX10_network_71 : decode cX10_network 71 = .ok (.ifCond .eq 7, 3) := by decide +kernel
theorem dX10_network_74 : decode cX10_network 74 = .ok (.iconst 1, 1) := by decide +kernel
theorem dX10_network_75 : decode cX10_network 75 = .ok (.goto 4, 3) := by decide +kernel
theorem dX10_network_78 : decode cX10_network 78 = .ok (.iconst 0, 1) := by decide +kernel
theorem dX10_network_79 : decode cX10_network 79 = .ok (.ireturn, 1) := by decide +kernel
theorem dX10_network_80 : decode cX10_network 80 = .ok (.sipush (-10002), 3) := by decide +kernel
theorem dX10_network_83 : decode cX10_network 83 = .ok (.ireturn, 1) := by decide +kernel
theorem dX10_isBalanced_0 : decode cX10_isBalanced 0 = .ok (.lconst 0, 1) := by decide +kernel
theorem dX10_isBalanced_1 : decode cX10_isBalanced 1 = .ok (.lstore 5, 2) := by decide +kernel
theorem dX10_isBalanced_3 : decode cX10_isBalanced 3 = .ok (.iconst 0, 1) := by decide +kernel
theorem dX10_isBalanced_4 : decode cX10_isBalanced 4 = .ok (.istore 7, 2) := by decide +kernel
theorem dX10_isBalanced_6 : decode cX10_isBalanced 6 = .ok (.iload 7, 2) := by decide +kernel
theorem dX10_isBalanced_8 : decode cX10_isBalanced 8 = .ok (.aload_n 0, 1) := by decide +kernel
theorem dX10_isBalanced_9 : decode cX10_isBalanced 9 = .ok (.getfield 118, 3) := by decide +kernel
theorem dX10_isBalanced_12 : decode cX10_isBalanced 12 = .ok (.if_icmp .ge 54, 3) := by decide +kernel
theorem dX10_isBalanced_15 : decode cX10_isBalanced 15 = .ok (.lload 5, 2) := by decide +kernel
theorem dX10_isBalanced_17 : decode cX10_isBalanced 17 = .ok (.aload_n 0, 1) := by decide +kernel
theorem dX10_isBalanced_18 : decode cX10_isBalanced 18 = .ok (.getfield 125, 3) := by decide +kernel
theorem dX10_isBalanced_21 : decode cX10_isBalanced 21 = .ok (.iconst 1, 1) := by decide +kernel
theorem dX10_isBalanced_22 : decode cX10_isBalanced 22 = .ok (.if_icmp .ne 27, 3) := by decide +kernel
theorem dX10_isBalanced_25 : decode cX10_isBalanced 25 = .ok (.lload_n 3, 1) := by decide +kernel
theorem dX10_isBalanced_26 : decode cX10_isBalanced 26 = .ok (.aload_n 0, 1) := by decide +kernel
theorem dX10_isBalanced_27 : decode cX10_isBalanced 27 = .ok (.getfield 25, 3) := by decide +kernel
theorem dX10_isBalanced_30 : decode cX10_isBalanced 30 = .ok (.iload 7, 2) := by decide +kernel
theorem dX10_isBalanced_32 : decode cX10_isBalanced 32 = .ok (.iaload, 1) := by decide +kernel
theorem dX10_isBalanced_33 : decode cX10_isBalanced 33 = .ok (.i2l, 1) := by decide +kernel
theorem dX10_isBalanced_34 : decode cX10_isBalanced 34 = .ok (.lmul, 1) := by decide +kernel
theorem dX10_isBalanced_35 : decode cX10_isBalanced 35 = .ok (.lload_n 1, 1) := by decide +kernel
theorem dX10_isBalanced_36 : decode cX10_isBalanced 36 = .ok (.aload_n 0, 1) := by decide +kernel
theorem dX10_isBalanced_37 : decode cX10_isBalanced 37 = .ok (.getfield 28, 3) := by decide +kernel
theorem dX10_isBalanced_40 : decode cX10_isBalanced 40 = .ok (.iload 7, 2) := by decide +kernel
theorem dX10_isBalanced_42 : decode cX10_isBalanced 42 = .ok (.iaload, 1) := by decide +kernel
theorem dX10_isBalanced_43 : decode cX10_isBalanced 43 = .ok (.i2l, 1) := by decide +kernel
theorem dX10_isBalanced_44 : decode cX10_isBalanced 44 = .ok (.lmul, 1) := by decide +kernel
theorem dX10_isBalanced_45 : decode cX10_isBalanced 45 = .ok (.ladd, 1) := by decide +kernel
theorem dX10_isBalanced_46 : decode cX10_isBalanced 46 = .ok (.goto 11, 3) := by decide +kernel
theorem dX10_isBalanced_49 : decode cX10_isBalanced 49 = .ok (.aload_n 0, 1) := by decide +kernel
theorem dX10_isBalanced_50 : decode cX10_isBalanced 50 = .ok (.getfield 25, 3) := by decide +kernel
theorem dX10_isBalanced_53 : decode cX10_isBalanced 53 = .ok (.iload 7, 2) := by decide +kernel
theorem dX10_isBalanced_55 : decode cX10_isBalanced 55 = .ok (.iaload, 1) := by decide +kernel
theorem dX10_isBalanced_56 : decode cX10_isBalanced 56 = .ok (.i2l, 1) := by decide +kernel
theorem dX10_isBalanced_57 : decode cX10_isBalanced 57 = .ok (.ladd, 1) := by decide +kernel
theorem dX10_isBalanced_58 : decode cX10_isBalanced 58 = .ok (.lstore 5, 2) := by decide +kernel
theorem dX10_isBalanced_60 : decode cX10_isBalanced 60 = .ok (.iinc 7 1, 3) := by decide +kernel
theorem dX10_isBalanced_63 : decode cX10_isBalanced 63 = .ok (.goto (-57), 3) := by decide +kernel
theorem dX10_isBalanced_66 : decode cX10_isBalanced 66 = .ok (.lload 5, 2) := by decide +kernel
theorem dX10_isBalanced_68 : decode cX10_isBalanced 68 = .ok (.lconst 0, 1) := by decide +kernel
theorem dX10_isBalanced_69 : decode cX10_isBalanced 69 = .ok (.lcmp, 1) := by decide +kernel
theorem dX10_isBalanced_70 : decode cX10_isBalanced 70 = .ok (.ifCond .ne 7, 3) := by decide +kernel
theorem dX10_isBalanced_73 : decode cX10_isBalanced 73 = .ok (.iconst 1, 1) := by decide +kernel
theorem dX10_isBalanced_74 : decode cX10_isBalanced 74 = .ok (.goto 4, 3) := by decide +kernel
theorem dX10_isBalanced_77 : decode cX10_isBalanced 77 = .ok (.iconst 0, 1) := by decide +kernel
theorem dX10_isBalanced_78 : decode cX10_isBalanced 78 = .ok (.ireturn, 1) := by decide +kernel
theorem dX10_lay_0 : decode cX10_lay 0 = .ok (.aload_n 0, 1) := by decide +kernel
theorem dX10_lay_1 : decode cX10_lay 1 = .ok (.lload_n 3, 1) := by decide +kernel
theorem dX10_lay_2 : decode cX10_lay 2 = .ok (.putfield 156, 3) := by decide +kernel
theorem dX10_lay_5 : decode cX10_lay 5 = .ok (.aload_n 0, 1) := by decide +kernel
theorem dX10_lay_6 : decode cX10_lay 6 = .ok (.iconst 0, 1) := by decide +kernel
theorem dX10_lay_7 : decode cX10_lay 7 = .ok (.putfield 160, 3) := by decide +kernel
theorem dX10_lay_10 : decode cX10_lay 10 = .ok (.lconst 0, 1) := by decide +kernel
theorem dX10_lay_11 : decode cX10_lay 11 = .ok (.lstore 5, 2) := by decide +kernel
theorem dX10_lay_13 : decode cX10_lay 13 = .ok (.iconst 0, 1) := by decide +kernel
theorem dX10_lay_14 : decode cX10_lay 14 = .ok (.istore 7, 2) := by decide +kernel
theorem dX10_lay_16 : decode cX10_lay 16 = .ok (.iload 7, 2) := by decide +kernel
theorem dX10_lay_18 : decode cX10_lay 18 = .ok (.aload_n 0, 1) := by decide +kernel
theorem dX10_lay_19 : decode cX10_lay 19 = .ok (.getfield 122, 3) := by decide +kernel
theorem dX10_lay_22 : decode cX10_lay 22 = .ok (.if_icmp .ge 168, 3) := by decide +kernel
theorem dX10_lay_25 : decode cX10_lay 25 = .ok (.aload_n 0, 1) := by decide +kernel
theorem dX10_lay_26 : decode cX10_lay 26 = .ok (.getfield 47, 3) := by decide +kernel
theorem dX10_lay_29 : decode cX10_lay 29 = .ok (.iload 7, 2) := by decide +kernel
theorem dX10_lay_31 : decode cX10_lay 31 = .ok (.aload_n 0, 1) := by decide +kernel
theorem dX10_lay_32 : decode cX10_lay 32 = .ok (.getfield 7, 3) := by decide +kernel
theorem dX10_lay_35 : decode cX10_lay 35 = .ok (.iload 7, 2) := by decide +kernel
theorem dX10_lay_37 : decode cX10_lay 37 = .ok (.iaload, 1) := by decide +kernel
theorem dX10_lay_38 : decode cX10_lay 38 = .ok (.iastore, 1) := by decide +kernel
theorem dX10_lay_39 : decode cX10_lay 39 = .ok (.aload_n 0, 1) := by decide +kernel
theorem dX10_lay_40 : decode cX10_lay 40 = .ok (.getfield 44, 3) := by decide +kernel
theorem dX10_lay_43 : decode cX10_lay 43 = .ok (.iload 7, 2) := by decide +kernel
theorem dX10_lay_45 : decode cX10_lay 45 = .ok (.aload_n 0, 1) := by decide +kernel
theorem dX10_lay_46 : decode cX10_lay 46 = .ok (.getfield 13, 3) := by decide +kernel
theorem dX10_lay_49 : decode cX10_lay 49 = .ok (.iload 7, 2) := by decide +kernel
theorem dX10_lay_51 : decode cX10_lay 51 = .ok (.iaload, 1) := by decide +kernel
theorem dX10_lay_52 : decode cX10_lay 52 = .ok (.iastore, 1) := by decide +kernel
theorem dX10_lay_53 : decode cX10_lay 53 = .ok (.aload_n 0, 1) := by decide +kernel
theorem dX10_lay_54 : decode cX10_lay 54 = .ok (.getfield 31, 3) := by decide +kernel
theorem dX10_lay_57 : decode cX10_lay 57 = .ok (.iload 7, 2) := by decide +kernel
theorem dX10_lay_59 : decode cX10_lay 59 = .ok (.aload_n 0, 1) := by decide +kernel
theorem dX10_lay_60 : decode cX10_lay 60 = .ok (.getfield 125, 3) := by decide +kernel
theorem dX10_lay_63 : decode cX10_lay 63 = .ok (.ifCond .ne 27, 3) := by decide +kernel
theorem dX10_lay_66 : decode cX10_lay 66 = .ok (.lload_n 3, 1) := by decide +kernel
theorem dX10_lay_67 : decode cX10_lay 67 = .ok (.aload_n 0, 1) := by decide +kernel
theorem dX10_lay_68 : decode cX10_lay 68 = .ok (.getfield 19, 3) := by decide +kernel
theorem dX10_lay_71 : decode cX10_lay 71 = .ok (.iload 7, 2) := by decide +kernel
theorem dX10_lay_73 : decode cX10_lay 73 = .ok (.iaload, 1) := by decide +kernel
theorem dX10_lay_74 : decode cX10_lay 74 = .ok (.i2l, 1) := by decide +kernel
theorem dX10_lay_75 : decode cX10_lay 75 = .ok (.lmul, 1) := by decide +kernel
theorem dX10_lay_76 : decode cX10_lay 76 = .ok (.lload_n 1, 1) := by decide +kernel
theorem dX10_lay_77 : decode cX10_lay 77 = .ok (.aload_n 0, 1) := by decide +kernel
theorem dX10_lay_78 : decode cX10_lay 78 = .ok (.getfield 22, 3) := by decide +kernel
theorem dX10_lay_81 : decode cX10_lay 81 = .ok (.iload 7, 2) := by decide +kernel
theorem dX10_lay_83 : decode cX10_lay 83 = .ok (.iaload, 1) := by decide +kernel
theorem dX10_lay_84 : decode cX10_lay 84 = .ok (.i2l, 1) := by decide +kernel
theorem dX10_lay_85 : decode cX10_lay 85 = .ok (.lmul, 1) := by decide +kernel
theorem dX10_lay_86 : decode cX10_lay 86 = .ok (.ladd, 1) := by decide +kernel
theorem dX10_lay_87 : decode cX10_lay 87 = .ok (.goto 11, 3) := by decide +kernel
theorem dX10_lay_90 : decode cX10_lay 90 = .ok (.aload_n 0, 1) := by decide +kernel
theorem dX10_lay_91 : decode cX10_lay 91 = .ok (.getfield 19, 3) := by decide +kernel
theorem dX10_lay_94 : decode cX10_lay 94 = .ok (.iload 7, 2) := by decide +kernel
theorem dX10_lay_96 : decode cX10_lay 96 = .ok (.iaload, 1) := by decide +kernel
theorem dX10_lay_97 : decode cX10_lay 97 = .ok (.i2l, 1) := by decide +kernel
theorem dX10_lay_98 : decode cX10_lay 98 = .ok (.lastore, 1) := by decide +kernel
theorem dX10_lay_99 : decode cX10_lay 99 = .ok (.aload_n 0, 1) := by decide +kernel
theorem dX10_lay_100 : decode cX10_lay 100 = .ok (.getfield 35, 3) := by decide +kernel
theorem dX10_lay_103 : decode cX10_lay 103 = .ok (.iload 7, 2) := by decide +kernel
theorem dX10_lay_105 : decode cX10_lay 105 = .ok (.aload_n 0, 1) := by decide +kernel
theorem dX10_lay_106 : decode cX10_lay 106 = .ok (.getfield 125, 3) := by decide +kernel
theorem dX10_lay_109 : decode cX10_lay 109 = .ok (.iconst 1, 1) := by decide +kernel
theorem dX10_lay_110 : decode cX10_lay 110 = .ok (.if_icmp .ne 16, 3) := by decide +kernel
theorem dX10_lay_113 : decode cX10_lay 113 = .ok (.lload_n 3, 1) := by decide +kernel
theorem dX10_lay_114 : decode cX10_lay 114 = .ok (.aload_n 0, 1) := by decide +kernel
theorem dX10_lay_115 : decode cX10_lay 115 = .ok (.getfield 16, 3) := by decide +kernel
theorem dX10_lay_118 : decode cX10_lay 118 = .ok (.iload 7, 2) := by decide +kernel
theorem dX10_lay_120 : decode cX10_lay 120 = .ok (.iaload, 1) := by decide +kernel
theorem dX10_lay_121 : decode cX10_lay 121 = .ok (.i2l, 1) := by decide +kernel
theorem dX10_lay_122 : decode cX10_lay 122 = .ok (.lmul, 1) := by decide +kernel
theorem dX10_lay_123 : decode cX10_lay 123 = .ok (.goto 11, 3) := by decide +kernel
theorem dX10_lay_126 : decode cX10_lay 126 = .ok (.aload_n 0, 1) := by decide +kernel
theorem dX10_lay_127 : decode cX10_lay 127 = .ok (.getfield 16, 3) := by decide +kernel
theorem dX10_lay_130 : decode cX10_lay 130 = .ok (.iload 7, 2) := by decide +kernel
theorem dX10_lay_132 : decode cX10_lay 132 = .ok (.iaload, 1) := by decide +kernel
theorem dX10_lay_133 : decode cX10_lay 133 = .ok (.i2l, 1) := by decide +kernel
theorem dX10_lay_134 : decode cX10_lay 134 = .ok (.lastore, 1) := by decide +kernel
theorem dX10_lay_135 : decode cX10_lay 135 = .ok (.aload_n 0, 1) := by decide +kernel
theorem dX10_lay_136 : decode cX10_lay 136 = .ok (.getfield 38, 3) := by decide +kernel
theorem dX10_lay_139 : decode cX10_lay 139 = .ok (.iload 7, 2) := by decide +kernel
theorem dX10_lay_141 : decode cX10_lay 141 = .ok (.lconst 0, 1) := by decide +kernel
theorem dX10_lay_142 : decode cX10_lay 142 = .ok (.lastore, 1) := by decide +kernel
theorem dX10_lay_143 : decode cX10_lay 143 = .ok (.aload_n 0, 1) := by decide +kernel
theorem dX10_lay_144 : decode cX10_lay 144 = .ok (.getfield 41, 3) := by decide +kernel
theorem dX10_lay_147 : decode cX10_lay 147 = .ok (.iload 7, 2) := by decide +kernel
theorem dX10_lay_149 : decode cX10_lay 149 = .ok (.iconst 0, 1) := by decide +kernel
theorem dX10_lay_150 : decode cX10_lay 150 = .ok (.iastore, 1) := by decide +kernel
theorem dX10_lay_151 : decode cX10_lay 151 = .ok (.aload_n 0, 1) := by decide +kernel
theorem dX10_lay_152 : decode cX10_lay 152 = .ok (.getfield 31, 3) := by decide +kernel
theorem dX10_lay_155 : decode cX10_lay 155 = .ok (.iload 7, 2) := by decide +kernel
theorem dX10_lay_157 : decode cX10_lay 157 = .ok (.laload, 1) := by decide +kernel
theorem dX10_lay_158 : decode cX10_lay 158 = .ok (.invokestatic 108, 3) := by decide +kernel
theorem dX10_lay_161 : decode cX10_lay 161 = .ok (.lload 5, 2) := by decide +kernel
theorem dX10_lay_163 : decode cX10_lay 163 = .ok (.lcmp, 1) := by decide +kernel
theorem dX10_lay_164 : decode cX10_lay 164 = .ok (.ifCond .le 16, 3) := by decide +kernel
theorem dX10_lay_167 : decode cX10_lay 167 = .ok (.aload_n 0, 1) := by decide +kernel
theorem dX10_lay_168 : decode cX10_lay 168 = .ok (.getfield 31, 3) := by decide +kernel
theorem dX10_lay_171 : decode cX10_lay 171 = .ok (.iload 7, 2) := by decide +kernel
theorem dX10_lay_173 : decode cX10_lay 173 = .ok (.laload, 1) := by decide +kernel
theorem dX10_lay_174 : decode cX10_lay 174 = .ok (.invokestatic 108, 3) := by decide +kernel
theorem dX10_lay_177 : decode cX10_lay 177 = .ok (.goto 5, 3) := by decide +kernel
theorem dX10_lay_180 : decode cX10_lay 180 = .ok (.lload 5, 2) := by decide +kernel
theorem dX10_lay_182 : decode cX10_lay 182 = .ok (.lstore 5, 2) := by decide +kernel
theorem dX10_lay_184 : decode cX10_lay 184 = .ok (.iinc 7 1, 3) := by decide +kernel
theorem dX10_lay_187 : decode cX10_lay 187 = .ok (.goto (-171), 3) := by decide +kernel
theorem dX10_lay_190 : decode cX10_lay 190 = .ok (.iconst 0, 1) := by decide +kernel
theorem dX10_lay_191 : decode cX10_lay 191 = .ok (.istore 7, 2) := by decide +kernel
theorem dX10_lay_193 : decode cX10_lay 193 = .ok (.iload 7, 2) := by decide +kernel
theorem dX10_lay_195 : decode cX10_lay 195 = .ok (.aload_n 0, 1) := by decide +kernel
theorem dX10_lay_196 : decode cX10_lay 196 = .ok (.getfield 118, 3) := by decide +kernel
theorem dX10_lay_199 : decode cX10_lay 199 = .ok (.if_icmp .ge 185, 3) := by decide +kernel
theorem dX10_lay_202 : decode cX10_lay 202 = .ok (.aload_n 0, 1) := by decide +kernel
theorem dX10_lay_203 : decode cX10_lay 203 = .ok (.getfield 50, 3) := by decide +kernel
theorem dX10_lay_206 : decode cX10_lay 206 = .ok (.iload 7, 2) := by decide +kernel
theorem dX10_lay_208 : decode cX10_lay 208 = .ok (.aload_n 0, 1) := by decide +kernel
theorem dX10_lay_209 : decode cX10_lay 209 = .ok (.getfield 125, 3) := by decide +kernel
theorem dX10_lay_212 : decode cX10_lay 212 = .ok (.iconst 1, 1) := by decide +kernel
theorem dX10_lay_213 : decode cX10_lay 213 = .ok (.if_icmp .ne 27, 3) := by decide +kernel
theorem dX10_lay_216 : decode cX10_lay 216 = .ok (.lload_n 3, 1) := by decide +kernel
theorem dX10_lay_217 : decode cX10_lay 217 = .ok (.aload_n 0, 1) := by decide +kernel
theorem dX10_lay_218 : decode cX10_lay 218 = .ok (.getfield 25, 3) := by decide +kernel
theorem dX10_lay_221 : decode cX10_lay 221 = .ok (.iload 7, 2) := by decide +kernel
theorem dX10_lay_223 : decode cX10_lay 223 = .ok (.iaload, 1) := by decide +kernel
theorem dX10_lay_224 : decode cX10_lay 224 = .ok (.i2l, 1) := by decide +kernel
theorem dX10_lay_225 : decode cX10_lay 225 = .ok (.lmul, 1) := by decide +kernel
theorem dX10_lay_226 : decode cX10_lay 226 = .ok (.lload_n 1, 1) := by decide +kernel
theorem dX10_lay_227 : decode cX10_lay 227 = .ok (.aload_n 0, 1) := by decide +kernel
theorem dX10_lay_228 : decode cX10_lay 228 = .ok (.getfield 28, 3) := by decide +kernel
theorem dX10_lay_231 : decode cX10_lay 231 = .ok (.iload 7, 2) := by decide +kernel
theorem dX10_lay_233 : decode cX10_lay 233 = .ok (.iaload, 1) := by decide +kernel
theorem dX10_lay_234 : decode cX10_lay 234 = .ok (.i2l, 1) := by decide +kernel
theorem dX10_lay_235 : decode cX10_lay 235 = .ok (.lmul, 1) := by decide +kernel
theorem dX10_lay_236 : decode cX10_lay 236 = .ok (.ladd, 1) := by decide +kernel
theorem dX10_lay_237 : decode cX10_lay 237 = .ok (.goto 11, 3) := by decide +kernel
theorem dX10_lay_240 : decode cX10_lay 240 = .ok (.aload_n 0, 1) := by decide +kernel
theorem dX10_lay_241 : decode cX10_lay 241 = .ok (.getfield 25, 3) := by decide +kernel
theorem dX10_lay_244 : decode cX10_lay 244 = .ok (.iload 7, 2) := by decide +kernel
theorem dX10_lay_246 : decode cX10_lay 246 = .ok (.iaload, 1) := by decide +kernel
theorem dX10_lay_247 : decode cX10_lay 247 = .ok (.i2l, 1) := by decide +kernel
theorem dX10_lay_248 : decode cX10_lay 248 = .ok (.lastore, 1) := by decide +kernel
theorem dX10_lay_249 : decode cX10_lay 249 = .ok (.bipush 20, 2) := by decide +kernel
theorem dX10_lay_251 : decode cX10_lay 251 = .ok (.iload 7, 2) := by decide +kernel
theorem dX10_lay_253 : decode cX10_lay 253 = .ok (.iadd, 1) := by decide +kernel
theorem dX10_lay_254 : decode cX10_lay 254 = .ok (.istore 8, 2) := by decide +kernel
theorem dX10_lay_256 : decode cX10_lay 256 = .ok (.aload_n 0, 1) := by decide +kernel
theorem dX10_lay_257 : decode cX10_lay 257 = .ok (.getfield 47, 3) := by decide +kernel
theorem dX10_lay_260 : decode cX10_lay 260 = .ok (.iload 8, 2) := by decide +kernel
theorem dX10_lay_262 : decode cX10_lay 262 = .ok (.aload_n 0, 1) := by decide +kernel
theorem dX10_lay_263 : decode cX10_lay 263 = .ok (.getfield 50, 3) := by decide +kernel
theorem dX10_lay_266 : decode cX10_lay 266 = .ok (.iload 7, 2) := by decide +kernel
theorem dX10_lay_268 : decode cX10_lay 268 = .ok (.laload, 1) := by decide +kernel
theorem dX10_lay_269 : decode cX10_lay 269 = .ok (.lconst 0, 1) := by decide +kernel
theorem dX10_lay_270 : decode cX10_lay 270 = .ok (.lcmp, 1) := by decide +kernel
theorem dX10_lay_271 : decode cX10_lay 271 = .ok (.ifCond .lt 8, 3) := by decide +kernel
theorem dX10_lay_274 : decode cX10_lay 274 = .ok (.iload 7, 2) := by decide +kernel
theorem dX10_lay_276 : decode cX10_lay 276 = .ok (.goto 5, 3) := by decide +kernel
theorem dX10_lay_279 : decode cX10_lay 279 = .ok (.bipush 8, 2) := by decide +kernel
theorem dX10_lay_281 : decode cX10_lay 281 = .ok (.iastore, 1) := by decide +kernel
theorem dX10_lay_282 : decode cX10_lay 282 = .ok (.aload_n 0, 1) := by decide +kernel
theorem dX10_lay_283 : decode cX10_lay 283 = .ok (.getfield 44, 3) := by decide +kernel
theorem dX10_lay_286 : decode cX10_lay 286 = .ok (.iload 8, 2) := by decide +kernel
theorem dX10_lay_288 : decode cX10_lay 288 = .ok (.aload_n 0, 1) := by decide +kernel
theorem dX10_lay_289 : decode cX10_lay 289 = .ok (.getfield 50, 3) := by decide +kernel
theorem dX10_lay_292 : decode cX10_lay 292 = .ok (.iload 7, 2) := by decide +kernel
theorem dX10_lay_294 : decode cX10_lay 294 = .ok (.laload, 1) := by decide +kernel
theorem dX10_lay_295 : decode cX10_lay 295 = .ok (.lconst 0, 1) := by decide +kernel
theorem dX10_lay_296 : decode cX10_lay 296 = .ok (.lcmp, 1) := by decide +kernel
theorem dX10_lay_297 : decode cX10_lay 297 = .ok (.ifCond .lt 8, 3) := by decide +kernel
theorem dX10_lay_300 : decode cX10_lay 300 = .ok (.bipush 8, 2) := by decide +kernel
theorem dX10_lay_302 : decode cX10_lay 302 = .ok (.goto 5, 3) := by decide +kernel
theorem dX10_lay_305 : decode cX10_lay 305 = .ok (.iload 7, 2) := by decide +kernel
theorem dX10_lay_307 : decode cX10_lay 307 = .ok (.iastore, 1) := by decide +kernel
theorem dX10_lay_308 : decode cX10_lay 308 = .ok (.aload_n 0, 1) := by decide +kernel
theorem dX10_lay_309 : decode cX10_lay 309 = .ok (.getfield 31, 3) := by decide +kernel
theorem dX10_lay_312 : decode cX10_lay 312 = .ok (.iload 8, 2) := by decide +kernel
theorem dX10_lay_314 : decode cX10_lay 314 = .ok (.lconst 1, 1) := by decide +kernel
theorem dX10_lay_315 : decode cX10_lay 315 = .ok (.aload_n 0, 1) := by decide +kernel
theorem dX10_lay_316 : decode cX10_lay 316 = .ok (.getfield 118, 3) := by decide +kernel
theorem dX10_lay_319 : decode cX10_lay 319 = .ok (.i2l, 1) := by decide +kernel
theorem dX10_lay_320 : decode cX10_lay 320 = .ok (.lload 5, 2) := by decide +kernel
theorem dX10_lay_322 : decode cX10_lay 322 = .ok (.lmul, 1) := by decide +kernel
theorem dX10_lay_323 : decode cX10_lay 323 = .ok (.ladd, 1) := by decide +kernel
theorem dX10_lay_324 : decode cX10_lay 324 = .ok (.lastore, 1) := by decide +kernel
theorem dX10_lay_325 : decode cX10_lay 325 = .ok (.aload_n 0, 1) := by decide +kernel
theorem dX10_lay_326 : decode cX10_lay 326 = .ok (.getfield 35, 3) := by decide +kernel
theorem dX10_lay_329 : decode cX10_lay 329 = .ok (.iload 8, 2) := by decide +kernel
theorem dX10_lay_331 : decode cX10_lay 331 = .ok (.ldc2_w 163, 3) := by decide +kernel
theorem dX10_lay_334 : decode cX10_lay 334 = .ok (.lastore, 1) := by decide +kernel
theorem dX10_lay_335 : decode cX10_lay 335 = .ok (.aload_n 0, 1) := by decide +kernel
theorem dX10_lay_336 : decode cX10_lay 336 = .ok (.getfield 38, 3) := by decide +kernel
theorem dX10_lay_339 : decode cX10_lay 339 = .ok (.iload 8, 2) := by decide +kernel
theorem dX10_lay_341 : decode cX10_lay 341 = .ok (.aload_n 0, 1) := by decide +kernel
theorem dX10_lay_342 : decode cX10_lay 342 = .ok (.getfield 50, 3) := by decide +kernel
theorem dX10_lay_345 : decode cX10_lay 345 = .ok (.iload 7, 2) := by decide +kernel
theorem dX10_lay_347 : decode cX10_lay 347 = .ok (.laload, 1) := by decide +kernel
theorem dX10_lay_348 : decode cX10_lay 348 = .ok (.invokestatic 108, 3) := by decide +kernel
theorem dX10_lay_351 : decode cX10_lay 351 = .ok (.lastore, 1) := by decide +kernel
theorem dX10_lay_352 : decode cX10_lay 352 = .ok (.aload_n 0, 1) := by decide +kernel
theorem dX10_lay_353 : decode cX10_lay 353 = .ok (.getfield 41, 3) := by decide +kernel
theorem dX10_lay_356 : decode cX10_lay 356 = .ok (.iload 8, 2) := by decide +kernel
theorem dX10_lay_358 : decode cX10_lay 358 = .ok (.iconst 2, 1) := by decide +kernel
theorem dX10_lay_359 : decode cX10_lay 359 = .ok (.iastore, 1) := by decide +kernel
theorem dX10_lay_360 : decode cX10_lay 360 = .ok (.aload_n 0, 1) := by decide +kernel
theorem dX10_lay_361 : decode cX10_lay 361 = .ok (.getfield 53, 3) := by decide +kernel
theorem dX10_lay_364 : decode cX10_lay 364 = .ok (.iload 7, 2) := by decide +kernel
theorem dX10_lay_366 : decode cX10_lay 366 = .ok (.bipush 8, 2) := by decide +kernel
theorem dX10_lay_368 : decode cX10_lay 368 = .ok (.iastore, 1) := by decide +kernel
theorem dX10_lay_369 : decode cX10_lay 369 = .ok (.aload_n 0, 1) := by decide +kernel
theorem dX10_lay_370 : decode cX10_lay 370 = .ok (.getfield 56, 3) := by decide +kernel
theorem dX10_lay_373 : decode cX10_lay 373 = .ok (.iload 7, 2) := by decide +kernel
theorem dX10_lay_375 : decode cX10_lay 375 = .ok (.iload 8, 2) := by decide +kernel
theorem dX10_lay_377 : decode cX10_lay 377 = .ok (.iastore, 1) := by decide +kernel
theorem dX10_lay_378 : decode cX10_lay 378 = .ok (.iinc 7 1, 3) := by decide +kernel
theorem dX10_lay_381 : decode cX10_lay 381 = .ok (.goto (-188), 3) := by decide +kernel
theorem dX10_lay_384 : decode cX10_lay 384 = .ok (.aload_n 0, 1) := by decide +kernel
theorem dX10_lay_385 : decode cX10_lay 385 = .ok (.invokevirtual 165, 3) := by decide +kernel
theorem dX10_lay_388 : decode cX10_lay 388 = .ok (.return_, 1) := by decide +kernel
theorem dX10_layDepths_0 : decode cX10_layDepths 0 = .ok (.aload_n 0, 1) := by decide +kernel
theorem dX10_layDepths_1 : decode cX10_layDepths 1 = .ok (.getfield 59, 3) := by decide +kernel
theorem dX10_layDepths_4 : decode cX10_layDepths 4 = .ok (.bipush 8, 2) := by decide +kernel
theorem dX10_layDepths_6 : decode cX10_layDepths 6 = .ok (.iconst 0, 1) := by decide +kernel
theorem dX10_layDepths_7 : decode cX10_layDepths 7 = .ok (.iastore, 1) := by decide +kernel
theorem dX10_layDepths_8 : decode cX10_layDepths 8 = .ok (.aload_n 0, 1) := by decide +kernel
theorem dX10_layDepths_9 : decode cX10_layDepths 9 = .ok (.getfield 62, 3) := by decide +kernel
theorem dX10_layDepths_12 : decode cX10_layDepths 12 = .ok (.bipush 8, 2) := by decide +kernel
theorem dX10_layDepths_14 : decode cX10_layDepths 14 = .ok (.lconst 0, 1) := by decide +kernel
theorem dX10_layDepths_15 : decode cX10_layDepths 15 = .ok (.lastore, 1) := by decide +kernel
theorem dX10_layDepths_16 : decode cX10_layDepths 16 = .ok (.iconst 0, 1) := by decide +kernel
theorem dX10_layDepths_17 : decode cX10_layDepths 17 = .ok (.istore_n 1, 1) := by decide +kernel
theorem dX10_layDepths_18 : decode cX10_layDepths 18 = .ok (.iload_n 1, 1) := by decide +kernel
theorem dX10_layDepths_19 : decode cX10_layDepths 19 = .ok (.aload_n 0, 1) := by decide +kernel
theorem dX10_layDepths_20 : decode cX10_layDepths 20 = .ok (.getfield 118, 3) := by decide +kernel
theorem dX10_layDepths_23 : decode cX10_layDepths 23 = .ok (.if_icmp .ge 16, 3) := by decide +kernel
theorem dX10_layDepths_26 : decode cX10_layDepths 26 = .ok (.aload_n 0, 1) := by decide +kernel
theorem dX10_layDepths_27 : decode cX10_layDepths 27 = .ok (.getfield 59, 3) := by decide +kernel
theorem dX10_layDepths_30 : decode cX10_layDepths 30 = .ok (.iload_n 1, 1) := by decide +kernel
theorem dX10_layDepths_31 : decode cX10_layDepths 31 = .ok (.iconst (-1), 1) := by decide +kernel
theorem dX10_layDepths_32 : decode cX10_layDepths 32 = .ok (.iastore, 1) := by decide +kernel
theorem dX10_layDepths_33 : decode cX10_layDepths 33 = .ok (.iinc 1 1, 3) := by decide +kernel
theorem dX10_layDepths_36 : decode cX10_layDepths 36 = .ok (.goto (-18), 3) := by decide +kernel
theorem dX10_layDepths_39 : decode cX10_layDepths 39 = .ok (.iconst 0, 1) := by decide +kernel
theorem dX10_layDepths_40 : decode cX10_layDepths 40 = .ok (.istore_n 1, 1) := by decide +kernel
theorem dX10_layDepths_41 : decode cX10_layDepths 41 = .ok (.iload_n 1, 1) := by decide +kernel
theorem dX10_layDepths_42 : decode cX10_layDepths 42 = .ok (.aload_n 0, 1) := by decide +kernel
theorem dX10_layDepths_43 : decode cX10_layDepths 43 = .ok (.getfield 118, 3) := by decide +kernel
theorem dX10_layDepths_46 : decode cX10_layDepths 46 = .ok (.if_icmp .ge 119, 3) := by decide +kernel
theorem dX10_layDepths_49 : decode cX10_layDepths 49 = .ok (.iconst 0, 1) := by decide +kernel
theorem dX10_layDepths_50 : decode cX10_layDepths 50 = .ok (.istore_n 2, 1) := by decide +kernel
theorem dX10_layDepths_51 : decode cX10_layDepths 51 = .ok (.iload_n 2, 1) := by decide +kernel
theorem dX10_layDepths_52 : decode cX10_layDepths 52 = .ok (.aload_n 0, 1) := by decide +kernel
theorem dX10_layDepths_53 : decode cX10_layDepths 53 = .ok (.getfield 118, 3) := by decide +kernel
theorem dX10_layDepths_56 : decode cX10_layDepths 56 = .ok (.if_icmp .ge 103, 3) := by decide +kernel
theorem dX10_layDepths_59 : decode cX10_layDepths 59 = .ok (.aload_n 0, 1) := by decide +kernel
theorem dX10_layDepths_60 : decode cX10_layDepths 60 = .ok (.getfield 53, 3) := by decide +kernel
theorem dX10_layDepths_63 : decode cX10_layDepths 63 = .ok (.iload_n 2, 1) := by decide +kernel
theorem dX10_layDepths_64 : decode cX10_layDepths 64 = .ok (.iaload, 1) := by decide +kernel
theorem dX10_layDepths_65 : decode cX10_layDepths 65 = .ok (.istore_n 3, 1) := by decide +kernel
theorem dX10_layDepths_66 : decode cX10_layDepths 66 = .ok (.aload_n 0, 1) := by decide +kernel
theorem dX10_layDepths_67 : decode cX10_layDepths 67 = .ok (.getfield 59, 3) := by decide +kernel
theorem dX10_layDepths_70 : decode cX10_layDepths 70 = .ok (.iload_n 2, 1) := by decide +kernel
theorem dX10_layDepths_71 : decode cX10_layDepths 71 = .ok (.iaload, 1) := by decide +kernel
theorem dX10_layDepths_72 : decode cX10_layDepths 72 = .ok (.ifCond .ge 81, 3) := by decide +kernel
theorem dX10_layDepths_75 : decode cX10_layDepths 75 = .ok (.aload_n 0, 1) := by decide +kernel
theorem dX10_layDepths_76 : decode cX10_layDepths 76 = .ok (.getfield 59, 3) := by decide +kernel
theorem dX10_layDepths_79 : decode cX10_layDepths 79 = .ok (.iload_n 3, 1) := by decide +kernel
theorem dX10_layDepths_80 : decode cX10_layDepths 80 = .ok (.iaload, 1) := by decide +kernel
theorem dX10_layDepths_81 : decode cX10_layDepths 81 = .ok (.ifCond .lt 72, 3) := by decide +kernel
theorem dX10_layDepths_84 : decode cX10_layDepths 84 = .ok (.aload_n 0, 1) := by decide +kernel
theorem dX10_layDepths_85 : decode cX10_layDepths 85 = .ok (.getfield 59, 3) := by decide +kernel
theorem dX10_layDepths_88 : decode cX10_layDepths 88 = .ok (.iload_n 2, 1) := by decide +kernel
theorem dX10_layDepths_89 : decode cX10_layDepths 89 = .ok (.aload_n 0, 1) := by decide +kernel
theorem dX10_layDepths_90 : decode cX10_layDepths 90 = .ok (.getfield 59, 3) := by decide +kernel
theorem dX10_layDepths_93 : decode cX10_layDepths 93 = .ok (.iload_n 3, 1) := by decide +kernel
theorem dX10_layDepths_94 : decode cX10_layDepths 94 = .ok (.iaload, 1) := by decide +kernel
theorem dX10_layDepths_95 : decode cX10_layDepths 95 = .ok (.iconst 1, 1) := by decide +kernel
theorem dX10_layDepths_96 : decode cX10_layDepths 96 = .ok (.iadd, 1) := by decide +kernel
theorem dX10_layDepths_97 : decode cX10_layDepths 97 = .ok (.iastore, 1) := by decide +kernel
theorem dX10_layDepths_98 : decode cX10_layDepths 98 = .ok (.aload_n 0, 1) := by decide +kernel
theorem dX10_layDepths_99 : decode cX10_layDepths 99 = .ok (.getfield 31, 3) := by decide +kernel
theorem dX10_layDepths_102 : decode cX10_layDepths 102 = .ok (.aload_n 0, 1) := by decide +kernel
theorem dX10_layDepths_103 : decode cX10_layDepths 103 = .ok (.getfield 56, 3) := by decide +kernel
theorem dX10_layDepths_106 : decode cX10_layDepths 106 = .ok (.iload_n 2, 1) := by decide +kernel
theorem dX10_layDepths_107 : decode cX10_layDepths 107 = .ok (.iaload, 1) := by decide +kernel
theorem dX10_layDepths_108 : decode cX10_layDepths 108 = .ok (.laload, 1) := by decide +kernel
theorem dX10_layDepths_109 : decode cX10_layDepths 109 = .ok (.lstore 4, 2) := by decide +kernel
theorem dX10_layDepths_111 : decode cX10_layDepths 111 = .ok (.aload_n 0, 1) := by decide +kernel
theorem dX10_layDepths_112 : decode cX10_layDepths 112 = .ok (.getfield 62, 3) := by decide +kernel
theorem dX10_layDepths_115 : decode cX10_layDepths 115 = .ok (.iload_n 2, 1) := by decide +kernel
theorem dX10_layDepths_116 : decode cX10_layDepths 116 = .ok (.aload_n 0, 1) := by decide +kernel
theorem dX10_layDepths_117 : decode cX10_layDepths 117 = .ok (.getfield 47, 3) := by decide +kernel
theorem dX10_layDepths_120 : decode cX10_layDepths 120 = .ok (.aload_n 0, 1) := by decide +kernel
theorem dX10_layDepths_121 : decode cX10_layDepths 121 = .ok (.getfield 56, 3) := by decide +kernel
theorem dX10_layDepths_124 : decode cX10_layDepths 124 = .ok (.iload_n 2, 1) := by decide +kernel
theorem dX10_layDepths_125 : decode cX10_layDepths 125 = .ok (.iaload, 1) := by decide +kernel
theorem dX10_layDepths_126 : decode cX10_layDepths 126 = .ok (.iaload, 1) := by decide +kernel
theorem dX10_layDepths_127 : decode cX10_layDepths 127 = .ok (.iload_n 2, 1) := by decide +kernel
theorem dX10_layDepths_128 : decode cX10_layDepths 128 = .ok (.if_icmp .ne 15, 3) := by decide +kernel
theorem dX10_layDepths_131 : decode cX10_layDepths 131 = .ok (.aload_n 0, 1) := by decide +kernel
theorem dX10_layDepths_132 : decode cX10_layDepths 132 = .ok (.getfield 62, 3) := by decide +kernel
theorem dX10_layDepths_135 : decode cX10_layDepths 135 = .ok (.iload_n 3, 1) := by decide +kernel
theorem dX10_layDepths_136 : decode cX10_layDepths 136 = .ok (.laload, 1) := by decide +kernel
theorem dX10_layDepths_137 : decode cX10_layDepths 137 = .ok (.lload 4, 2) := by decide +kernel
theorem dX10_layDepths_139 : decode cX10_layDepths 139 = .ok (.ladd, 1) := by decide +kernel
theorem dX10_layDepths_140 : decode cX10_layDepths 140 = .ok (.goto 12, 3) := by decide +kernel
theorem dX10_layDepths_143 : decode cX10_layDepths 143 = .ok (.aload_n 0, 1) := by decide +kernel
theorem dX10_layDepths_144 : decode cX10_layDepths 144 = .ok (.getfield 62, 3) := by decide +kernel
theorem dX10_layDepths_147 : decode cX10_layDepths 147 = .ok (.iload_n 3, 1) := by decide +kernel
theorem dX10_layDepths_148 : decode cX10_layDepths 148 = .ok (.laload, 1) := by decide +kernel
theorem dX10_layDepths_149 : decode cX10_layDepths 149 = .ok (.lload 4, 2) := by decide +kernel
theorem dX10_layDepths_151 : decode cX10_layDepths 151 = .ok (.lsub, 1) := by decide +kernel
theorem dX10_layDepths_152 : decode cX10_layDepths 152 = .ok (.lastore, 1) := by decide +kernel
theorem dX10_layDepths_153 : decode cX10_layDepths 153 = .ok (.iinc 2 1, 3) := by decide +kernel
theorem dX10_layDepths_156 : decode cX10_layDepths 156 = .ok (.goto (-105), 3) := by decide +kernel
theorem dX10_layDepths_159 : decode cX10_layDepths 159 = .ok (.iinc 1 1, 3) := by decide +kernel
theorem dX10_layDepths_162 : decode cX10_layDepths 162 = .ok (.goto (-121), 3) := by decide +kernel
theorem dX10_layDepths_165 : decode cX10_layDepths 165 = .ok (.return_, 1) := by decide +kernel
theorem dX10_entering_0 : decode cX10_entering 0 = .ok (.iconst (-1), 1) := by decide +kernel
theorem dX10_entering_1 : decode cX10_entering 1 = .ok (.istore_n 1, 1) := by decide +kernel
theorem dX10_entering_2 : decode cX10_entering 2 = .ok (.iconst 0, 1) := by decide +kernel
theorem dX10_entering_3 : decode cX10_entering 3 = .ok (.istore_n 2, 1) := by decide +kernel
theorem dX10_entering_4 : decode cX10_entering 4 = .ok (.iload_n 2, 1) := by decide +kernel
theorem dX10_entering_5 : decode cX10_entering 5 = .ok (.aload_n 0, 1) := by decide +kernel
theorem dX10_entering_6 : decode cX10_entering 6 = .ok (.getfield 122, 3) := by decide +kernel
theorem dX10_entering_9 : decode cX10_entering 9 = .ok (.if_icmp .ge 84, 3) := by decide +kernel
theorem dX10_entering_12 : decode cX10_entering 12 = .ok (.aload_n 0, 1) := by decide +kernel
theorem dX10_entering_13 : decode cX10_entering 13 = .ok (.iload_n 2, 1) := by decide +kernel
theorem dX10_entering_14 : decode cX10_entering 14 = .ok (.invokevirtual 168, 3) := by decide +kernel
theorem dX10_entering_17 : decode cX10_entering 17 = .ok (.lstore_n 3, 1) := by decide +kernel
theorem dX10_entering_18 : decode cX10_entering 18 = .ok (.aload_n 0, 1) := by decide +kernel
theorem dX10_entering_19 : decode cX10_entering 19 = .ok (.getfield 41, 3) := by decide +kernel
theorem dX10_entering_22 : decode cX10_entering 22 = .ok (.iload_n 2, 1) := by decide +kernel
theorem dX10_entering_23 : decode cX10_entering 23 = .ok (.iaload, 1) := by decide +kernel
theorem dX10_entering_24 : decode cX10_entering 24 = .ok (.ifCond .ne 9, 3) := by decide +kernel
theorem dX10_entering_27 : decode cX10_entering 27 = .ok (.lload_n 3, 1) := by decide +kernel
theorem dX10_entering_28 : decode cX10_entering 28 = .ok (.lconst 0, 1) := by decide +kernel
theorem dX10_entering_29 : decode cX10_entering 29 = .ok (.lcmp, 1) := by decide +kernel
theorem dX10_entering_30 : decode cX10_entering 30 = .ok (.ifCond .lt 19, 3) := by decide +kernel
theorem dX10_entering_33 : decode cX10_entering 33 = .ok (.aload_n 0, 1) := by decide +kernel
theorem dX10_entering_34 : decode cX10_entering 34 = .ok (.getfield 41, 3) := by decide +kernel
theorem dX10_entering_37 : decode cX10_entering 37 = .ok (.iload_n 2, 1) := by decide +kernel
theorem dX10_entering_38 : decode cX10_entering 38 = .ok (.iaload, 1) := by decide +kernel
theorem dX10_entering_39 : decode cX10_entering 39 = .ok (.iconst 1, 1) := by decide +kernel
theorem dX10_entering_40 : decode cX10_entering 40 = .ok (.if_icmp .ne 13, 3) := by decide +kernel
theorem dX10_entering_43 : decode cX10_entering 43 = .ok (.lload_n 3, 1) := by decide +kernel
theorem dX10_entering_44 : decode cX10_entering 44 = .ok (.lconst 0, 1) := by decide +kernel
theorem dX10_entering_45 : decode cX10_entering 45 = .ok (.lcmp, 1) := by decide +kernel
theorem dX10_entering_46 : decode cX10_entering 46 = .ok (.ifCond .le 7, 3) := by decide +kernel
theorem dX10_entering_49 : decode cX10_entering 49 = .ok (.iconst 1, 1) := by decide +kernel
theorem dX10_entering_50 : decode cX10_entering 50 = .ok (.goto 4, 3) := by decide +kernel
theorem dX10_entering_53 : decode cX10_entering 53 = .ok (.iconst 0, 1) := by decide +kernel
theorem dX10_entering_54 : decode cX10_entering 54 = .ok (.istore 5, 2) := by decide +kernel
theorem dX10_entering_56 : decode cX10_entering 56 = .ok (.iload 5, 2) := by decide +kernel
theorem dX10_entering_58 : decode cX10_entering 58 = .ok (.ifCond .eq 27, 3) := by decide +kernel
theorem dX10_entering_61 : decode cX10_entering 61 = .ok (.iload_n 1, 1) := by decide +kernel
theorem dX10_entering_62 : decode cX10_entering 62 = .ok (.ifCond .lt 19, 3) := by decide +kernel
theorem dX10_entering_65 : decode cX10_entering 65 = .ok (.lload_n 3, 1) := by decide +kernel
theorem dX10_entering_66 : decode cX10_entering 66 = .ok (.invokestatic 108, 3) := by decide +kernel
theorem dX10_entering_69 : decode cX10_entering 69 = .ok (.aload_n 0, 1) := by decide +kernel
theorem dX10_entering_70 : decode cX10_entering 70 = .ok (.iload_n 1, 1) := by decide +kernel
theorem dX10_entering_71 : decode cX10_entering 71 = .ok (.invokevirtual 168, 3) := by decide +kernel
theorem dX10_entering_74 : decode cX10_entering 74 = .ok (.invokestatic 108, 3) := by decide +kernel
theorem dX10_entering_77 : decode cX10_entering 77 = .ok (.lcmp, 1) := by decide +kernel
theorem dX10_entering_78 : decode cX10_entering 78 = .ok (.ifCond .le 7, 3) := by decide +kernel
theorem dX10_entering_81 : decode cX10_entering 81 = .ok (.iload_n 2, 1) := by decide +kernel
theorem dX10_entering_82 : decode cX10_entering 82 = .ok (.goto 4, 3) := by decide +kernel
theorem dX10_entering_85 : decode cX10_entering 85 = .ok (.iload_n 1, 1) := by decide +kernel
theorem dX10_entering_86 : decode cX10_entering 86 = .ok (.istore_n 1, 1) := by decide +kernel
theorem dX10_entering_87 : decode cX10_entering 87 = .ok (.iinc 2 1, 3) := by decide +kernel
theorem dX10_entering_90 : decode cX10_entering 90 = .ok (.goto (-86), 3) := by decide +kernel
theorem dX10_entering_93 : decode cX10_entering 93 = .ok (.iload_n 1, 1) := by decide +kernel
theorem dX10_entering_94 : decode cX10_entering 94 = .ok (.ireturn, 1) := by decide +kernel
theorem dX10_tryAt_0 : decode cX10_tryAt 0 = .ok (.aload_n 0, 1) := by decide +kernel
theorem dX10_tryAt_1 : decode cX10_tryAt 1 = .ok (.lload_n 1, 1) := by decide +kernel
theorem dX10_tryAt_2 : decode cX10_tryAt 2 = .ok (.lload_n 3, 1) := by decide +kernel
theorem dX10_tryAt_3 : decode cX10_tryAt 3 = .ok (.invokevirtual 193, 3) := by decide +kernel
theorem dX10_tryAt_6 : decode cX10_tryAt 6 = .ok (.ifCond .ne 7, 3) := by decide +kernel
theorem dX10_tryAt_9 : decode cX10_tryAt 9 = .ok (.sipush (-10003), 3) := by decide +kernel
theorem dX10_tryAt_12 : decode cX10_tryAt 12 = .ok (.ireturn, 1) := by decide +kernel
theorem dX10_tryAt_13 : decode cX10_tryAt 13 = .ok (.aload_n 0, 1) := by decide +kernel
theorem dX10_tryAt_14 : decode cX10_tryAt 14 = .ok (.lload_n 1, 1) := by decide +kernel
theorem dX10_tryAt_15 : decode cX10_tryAt 15 = .ok (.lload_n 3, 1) := by decide +kernel
theorem dX10_tryAt_16 : decode cX10_tryAt 16 = .ok (.invokevirtual 197, 3) := by decide +kernel
theorem dX10_tryAt_19 : decode cX10_tryAt 19 = .ok (.aload_n 0, 1) := by decide +kernel
theorem dX10_tryAt_20 : decode cX10_tryAt 20 = .ok (.invokevirtual 201, 3) := by decide +kernel
theorem dX10_tryAt_23 : decode cX10_tryAt 23 = .ok (.istore 5, 2) := by decide +kernel
theorem dX10_tryAt_25 : decode cX10_tryAt 25 = .ok (.iload 5, 2) := by decide +kernel
theorem dX10_tryAt_27 : decode cX10_tryAt 27 = .ok (.ifCond .lt 18, 3) := by decide +kernel
theorem dX10_tryAt_30 : decode cX10_tryAt 30 = .ok (.aload_n 0, 1) := by decide +kernel
theorem dX10_tryAt_31 : decode cX10_tryAt 31 = .ok (.iload 5, 2) := by decide +kernel
theorem dX10_tryAt_33 : decode cX10_tryAt 33 = .ok (.invokevirtual 205, 3) := by decide +kernel
theorem dX10_tryAt_36 : decode cX10_tryAt 36 = .ok (.aload_n 0, 1) := by decide +kernel
theorem dX10_tryAt_37 : decode cX10_tryAt 37 = .ok (.invokevirtual 201, 3) := by decide +kernel
theorem dX10_tryAt_40 : decode cX10_tryAt 40 = .ok (.istore 5, 2) := by decide +kernel
theorem dX10_tryAt_42 : decode cX10_tryAt 42 = .ok (.goto (-17), 3) := by decide +kernel
theorem dX10_tryAt_45 : decode cX10_tryAt 45 = .ok (.iconst 0, 1) := by decide +kernel
theorem dX10_tryAt_46 : decode cX10_tryAt 46 = .ok (.istore 5, 2) := by decide +kernel
theorem dX10_tryAt_48 : decode cX10_tryAt 48 = .ok (.iload 5, 2) := by decide +kernel
theorem dX10_tryAt_50 : decode cX10_tryAt 50 = .ok (.aload_n 0, 1) := by decide +kernel
theorem dX10_tryAt_51 : decode cX10_tryAt 51 = .ok (.getfield 118, 3) := by decide +kernel
theorem dX10_tryAt_54 : decode cX10_tryAt 54 = .ok (.if_icmp .ge 28, 3) := by decide +kernel
theorem dX10_tryAt_57 : decode cX10_tryAt 57 = .ok (.aload_n 0, 1) := by decide +kernel
theorem dX10_tryAt_58 : decode cX10_tryAt 58 = .ok (.getfield 38, 3) := by decide +kernel
theorem dX10_tryAt_61 : decode cX10_tryAt 61 = .ok (.bipush 20, 2) := by decide +kernel
theorem dX10_tryAt_63 : decode cX10_tryAt 63 = .ok (.iload 5, 2) := by decide +kernel
theorem dX10_tryAt_65 : decode cX10_tryAt 65 = .ok (.iadd, 1) := by decide +kernel
theorem dX10_tryAt_66 : decode cX10_tryAt 66 = .ok (.laload, 1) := by decide +kernel
theorem dX10_tryAt_67 : decode cX10_tryAt 67 = .ok (.lconst 0, 1) := by decide +kernel
theorem dX10_tryAt_68 : decode cX10_tryAt 68 = .ok (.lcmp, 1) := by decide +kernel
theorem dX10_tryAt_69 : decode cX10_tryAt 69 = .ok (.ifCond .le 7, 3) := by decide +kernel
theorem dX10_tryAt_72 : decode cX10_tryAt 72 = .ok (.sipush (-10004), 3) := by decide +kernel
theorem dX10_tryAt_75 : decode cX10_tryAt 75 = .ok (.ireturn, 1) := by decide +kernel
theorem dX10_tryAt_76 : decode cX10_tryAt 76 = .ok (.iinc 5 1, 3) := by decide +kernel
theorem dX10_tryAt_79 : decode cX10_tryAt 79 = .ok (.goto (-31), 3) := by decide +kernel
theorem dX10_tryAt_82 : decode cX10_tryAt 82 = .ok (.iconst 0, 1) := by decide +kernel
theorem dX10_tryAt_83 : decode cX10_tryAt 83 = .ok (.ireturn, 1) := by decide +kernel
theorem dX10_valueNow_0 : decode cX10_valueNow 0 = .ok (.lconst 0, 1) := by decide +kernel
theorem dX10_valueNow_1 : decode cX10_valueNow 1 = .ok (.lstore_n 1, 1) := by decide +kernel
theorem dX10_valueNow_2 : decode cX10_valueNow 2 = .ok (.iconst 0, 1) := by decide +kernel
theorem dX10_valueNow_3 : decode cX10_valueNow 3 = .ok (.istore_n 3, 1) := by decide +kernel
theorem dX10_valueNow_4 : decode cX10_valueNow 4 = .ok (.iload_n 3, 1) := by decide +kernel
theorem dX10_valueNow_5 : decode cX10_valueNow 5 = .ok (.aload_n 0, 1) := by decide +kernel
theorem dX10_valueNow_6 : decode cX10_valueNow 6 = .ok (.getfield 122, 3) := by decide +kernel
theorem dX10_valueNow_9 : decode cX10_valueNow 9 = .ok (.if_icmp .ge 25, 3) := by decide +kernel
theorem dX10_valueNow_12 : decode cX10_valueNow 12 = .ok (.lload_n 1, 1) := by decide +kernel
theorem dX10_valueNow_13 : decode cX10_valueNow 13 = .ok (.aload_n 0, 1) := by decide +kernel
theorem dX10_valueNow_14 : decode cX10_valueNow 14 = .ok (.getfield 38, 3) := by decide +kernel
theorem dX10_valueNow_17 : decode cX10_valueNow 17 = .ok (.iload_n 3, 1) := by decide +kernel
theorem dX10_valueNow_18 : decode cX10_valueNow 18 = .ok (.laload, 1) := by decide +kernel
theorem dX10_valueNow_19 : decode cX10_valueNow 19 = .ok (.aload_n 0, 1) := by decide +kernel
theorem dX10_valueNow_20 : decode cX10_valueNow 20 = .ok (.getfield 31, 3) := by decide +kernel
theorem dX10_valueNow_23 : decode cX10_valueNow 23 = .ok (.iload_n 3, 1) := by decide +kernel
theorem dX10_valueNow_24 : decode cX10_valueNow 24 = .ok (.laload, 1) := by decide +kernel
theorem dX10_valueNow_25 : decode cX10_valueNow 25 = .ok (.lmul, 1) := by decide +kernel
theorem dX10_valueNow_26 : decode cX10_valueNow 26 = .ok (.ladd, 1) := by decide +kernel
theorem dX10_valueNow_27 : decode cX10_valueNow 27 = .ok (.lstore_n 1, 1) := by decide +kernel
theorem dX10_valueNow_28 : decode cX10_valueNow 28 = .ok (.iinc 3 1, 3) := by decide +kernel
theorem dX10_valueNow_31 : decode cX10_valueNow 31 = .ok (.goto (-27), 3) := by decide +kernel
theorem dX10_valueNow_34 : decode cX10_valueNow 34 = .ok (.lload_n 1, 1) := by decide +kernel
theorem dX10_valueNow_35 : decode cX10_valueNow 35 = .ok (.lreturn, 1) := by decide +kernel
theorem dX10_isParameter_0 : decode cX10_isParameter 0 = .ok (.iload_n 0, 1) := by decide +kernel
theorem dX10_isParameter_1 : decode cX10_isParameter 1 = .ok (.sipush (-10000), 3) := by decide +kernel
theorem dX10_isParameter_4 : decode cX10_isParameter 4 = .ok (.sipush 10000, 3) := by decide +kernel
theorem dX10_isParameter_7 : decode cX10_isParameter 7 = .ok (.invokestatic 132, 3) := by decide +kernel
theorem dX10_isParameter_10 : decode cX10_isParameter 10 = .ok (.ifCond .eq 18, 3) := by decide +kernel
theorem dX10_isParameter_13 : decode cX10_isParameter 13 = .ok (.iload_n 1, 1) := by decide +kernel
theorem dX10_isParameter_14 : decode cX10_isParameter 14 = .ok (.iconst 1, 1) := by decide +kernel
theorem dX10_isParameter_15 : decode cX10_isParameter 15 = .ok (.sipush 1000, 3) := by decide +kernel
theorem dX10_isParameter_18 : decode cX10_isParameter 18 = .ok (.invokestatic 132, 3) := by decide +kernel
theorem dX10_isParameter_21 : decode cX10_isParameter 21 = .ok (.ifCond .eq 7, 3) := by decide +kernel
theorem dX10_isParameter_24 : decode cX10_isParameter 24 = .ok (.iconst 1, 1) := by decide +kernel
theorem dX10_isParameter_25 : decode cX10_isParameter 25 = .ok (.goto 4, 3) := by decide +kernel
theorem dX10_isParameter_28 : decode cX10_isParameter 28 = .ok (.iconst 0, 1) := by decide +kernel
theorem dX10_isParameter_29 : decode cX10_isParameter 29 = .ok (.ireturn, 1) := by decide +kernel
theorem dX10_solve_0 : decode cX10_solve 0 = .ok (.iload_n 1, 1) := by decide +kernel
theorem dX10_solve_1 : decode cX10_solve 1 = .ok (.iload_n 2, 1) := by decide +kernel
theorem dX10_solve_2 : decode cX10_solve 2 = .ok (.invokestatic 218, 3) := by decide +kernel
theorem dX10_solve_5 : decode cX10_solve 5 = .ok (.ifCond .ne 7, 3) := by decide +kernel
theorem dX10_solve_8 : decode cX10_solve 8 = .ok (.sipush (-10002), 3) := by decide +kernel
theorem dX10_solve_11 : decode cX10_solve 11 = .ok (.ireturn, 1) := by decide +kernel
theorem dX10_solve_12 : decode cX10_solve 12 = .ok (.aload_n 0, 1) := by decide +kernel
theorem dX10_solve_13 : decode cX10_solve 13 = .ok (.iload_n 1, 1) := by decide +kernel
theorem dX10_solve_14 : decode cX10_solve 14 = .ok (.i2l, 1) := by decide +kernel
theorem dX10_solve_15 : decode cX10_solve 15 = .ok (.iload_n 2, 1) := by decide +kernel
theorem dX10_solve_16 : decode cX10_solve 16 = .ok (.i2l, 1) := by decide +kernel
theorem dX10_solve_17 : decode cX10_solve 17 = .ok (.invokevirtual 214, 3) := by decide +kernel
theorem dX10_solve_20 : decode cX10_solve 20 = .ok (.istore_n 3, 1) := by decide +kernel
theorem dX10_solve_21 : decode cX10_solve 21 = .ok (.iload_n 3, 1) := by decide +kernel
theorem dX10_solve_22 : decode cX10_solve 22 = .ok (.ifCond .ge 5, 3) := by decide +kernel
theorem dX10_solve_25 : decode cX10_solve 25 = .ok (.iload_n 3, 1) := by decide +kernel
theorem dX10_solve_26 : decode cX10_solve 26 = .ok (.ireturn, 1) := by decide +kernel
theorem dX10_solve_27 : decode cX10_solve 27 = .ok (.aload_n 0, 1) := by decide +kernel
theorem dX10_solve_28 : decode cX10_solve 28 = .ok (.iconst 1, 1) := by decide +kernel
theorem dX10_solve_29 : decode cX10_solve 29 = .ok (.putfield 128, 3) := by decide +kernel
theorem dX10_solve_32 : decode cX10_solve 32 = .ok (.aload_n 0, 1) := by decide +kernel
theorem dX10_solve_33 : decode cX10_solve 33 = .ok (.iload_n 1, 1) := by decide +kernel
theorem dX10_solve_34 : decode cX10_solve 34 = .ok (.putfield 208, 3) := by decide +kernel
theorem dX10_solve_37 : decode cX10_solve 37 = .ok (.aload_n 0, 1) := by decide +kernel
theorem dX10_solve_38 : decode cX10_solve 38 = .ok (.iload_n 2, 1) := by decide +kernel
theorem dX10_solve_39 : decode cX10_solve 39 = .ok (.putfield 211, 3) := by decide +kernel
theorem dX10_solve_42 : decode cX10_solve 42 = .ok (.aload_n 0, 1) := by decide +kernel
theorem dX10_solve_43 : decode cX10_solve 43 = .ok (.getfield 160, 3) := by decide +kernel
theorem dX10_solve_46 : decode cX10_solve 46 = .ok (.ireturn, 1) := by decide +kernel
theorem dX10_pivot_0 : decode cX10_pivot 0 = .ok (.aload_n 0, 1) := by decide +kernel
theorem dX10_pivot_1 : decode cX10_pivot 1 = .ok (.getfield 128, 3) := by decide +kernel
theorem dX10_pivot_4 : decode cX10_pivot 4 = .ok (.ifCond .ne 7, 3) := by decide +kernel
theorem dX10_pivot_7 : decode cX10_pivot 7 = .ok (.sipush (-10005), 3) := by decide +kernel
theorem dX10_pivot_10 : decode cX10_pivot 10 = .ok (.ireturn, 1) := by decide +kernel
theorem dX10_pivot_11 : decode cX10_pivot 11 = .ok (.iload_n 1, 1) := by decide +kernel
theorem dX10_pivot_12 : decode cX10_pivot 12 = .ok (.ifCond .ge 7, 3) := by decide +kernel
theorem dX10_pivot_15 : decode cX10_pivot 15 = .ok (.sipush (-10002), 3) := by decide +kernel
theorem dX10_pivot_18 : decode cX10_pivot 18 = .ok (.ireturn, 1) := by decide +kernel
theorem dX10_pivot_19 : decode cX10_pivot 19 = .ok (.aload_n 0, 1) := by decide +kernel
theorem dX10_pivot_20 : decode cX10_pivot 20 = .ok (.invokevirtual 221, 3) := by decide +kernel
theorem dX10_pivot_23 : decode cX10_pivot 23 = .ok (.iload_n 1, 1) := by decide +kernel
theorem dX10_pivot_24 : decode cX10_pivot 24 = .ok (.aload_n 0, 1) := by decide +kernel
theorem dX10_pivot_25 : decode cX10_pivot 25 = .ok (.getfield 160, 3) := by decide +kernel
theorem dX10_pivot_28 : decode cX10_pivot 28 = .ok (.if_icmp .ge 28, 3) := by decide +kernel
theorem dX10_pivot_31 : decode cX10_pivot 31 = .ok (.iload_n 2, 1) := by decide +kernel
theorem dX10_pivot_32 : decode cX10_pivot 32 = .ok (.ifCond .eq 12, 3) := by decide +kernel
theorem dX10_pivot_35 : decode cX10_pivot 35 = .ok (.aload_n 0, 1) := by decide +kernel
theorem dX10_pivot_36 : decode cX10_pivot 36 = .ok (.getfield 68, 3) := by decide +kernel
theorem dX10_pivot_39 : decode cX10_pivot 39 = .ok (.iload_n 1, 1) := by decide +kernel
theorem dX10_pivot_40 : decode cX10_pivot 40 = .ok (.iaload, 1) := by decide +kernel
theorem dX10_pivot_41 : decode cX10_pivot 41 = .ok (.goto 9, 3) := by decide +kernel
theorem dX10_pivot_44 : decode cX10_pivot 44 = .ok (.aload_n 0, 1) := by decide +kernel
theorem dX10_pivot_45 : decode cX10_pivot 45 = .ok (.getfield 65, 3) := by decide +kernel
theorem dX10_pivot_48 : decode cX10_pivot 48 = .ok (.iload_n 1, 1) := by decide +kernel
theorem dX10_pivot_49 : decode cX10_pivot 49 = .ok (.iaload, 1) := by decide +kernel
theorem dX10_pivot_50 : decode cX10_pivot 50 = .ok (.invokestatic 224, 3) := by decide +kernel
theorem dX10_pivot_53 : decode cX10_pivot 53 = .ok (.goto 6, 3) := by decide +kernel
theorem dX10_pivot_56 : decode cX10_pivot 56 = .ok (.sipush (-10007), 3) := by decide +kernel
theorem dX10_pivot_59 : decode cX10_pivot 59 = .ok (.ireturn, 1) := by decide +kernel
theorem dX10_objective_0 : decode cX10_objective 0 = .ok (.aload_n 0, 1) := by decide +kernel
theorem dX10_objective_1 : decode cX10_objective 1 = .ok (.getfield 128, 3) := by decide +kernel
theorem dX10_objective_4 : decode cX10_objective 4 = .ok (.ifCond .ne 7, 3) := by decide +kernel
theorem dX10_objective_7 : decode cX10_objective 7 = .ok (.invokestatic 228, 3) := by decide +kernel
theorem dX10_objective_10 : decode cX10_objective 10 = .ok (.lreturn, 1) := by decide +kernel
theorem dX10_objective_11 : decode cX10_objective 11 = .ok (.aload_n 0, 1) := by decide +kernel
theorem dX10_objective_12 : decode cX10_objective 12 = .ok (.invokevirtual 221, 3) := by decide +kernel
theorem dX10_objective_15 : decode cX10_objective 15 = .ok (.aload_n 0, 1) := by decide +kernel
theorem dX10_objective_16 : decode cX10_objective 16 = .ok (.invokevirtual 232, 3) := by decide +kernel
theorem dX10_objective_19 : decode cX10_objective 19 = .ok (.aload_n 0, 1) := by decide +kernel
theorem dX10_objective_20 : decode cX10_objective 20 = .ok (.getfield 156, 3) := by decide +kernel
theorem dX10_objective_23 : decode cX10_objective 23 = .ok (.iload_n 1, 1) := by decide +kernel
theorem dX10_objective_24 : decode cX10_objective 24 = .ok (.invokestatic 235, 3) := by decide +kernel
theorem dX10_objective_27 : decode cX10_objective 27 = .ok (.lreturn, 1) := by decide +kernel
theorem dX10_flow_0 : decode cX10_flow 0 = .ok (.aload_n 0, 1) := by decide +kernel
theorem dX10_flow_1 : decode cX10_flow 1 = .ok (.getfield 128, 3) := by decide +kernel
theorem dX10_flow_4 : decode cX10_flow 4 = .ok (.ifCond .eq 11, 3) := by decide +kernel
theorem dX10_flow_7 : decode cX10_flow 7 = .ok (.aload_n 0, 1) := by decide +kernel
theorem dX10_flow_8 : decode cX10_flow 8 = .ok (.iload_n 1, 1) := by decide +kernel
theorem dX10_flow_9 : decode cX10_flow 9 = .ok (.invokevirtual 149, 3) := by decide +kernel
theorem dX10_flow_12 : decode cX10_flow 12 = .ok (.ifCond .eq 7, 3) := by decide +kernel
theorem dX10_flow_15 : decode cX10_flow 15 = .ok (.invokestatic 228, 3) := by decide +kernel
theorem dX10_flow_18 : decode cX10_flow 18 = .ok (.lreturn, 1) := by decide +kernel
theorem dX10_flow_19 : decode cX10_flow 19 = .ok (.aload_n 0, 1) := by decide +kernel
theorem dX10_flow_20 : decode cX10_flow 20 = .ok (.invokevirtual 221, 3) := by decide +kernel
theorem dX10_flow_23 : decode cX10_flow 23 = .ok (.aload_n 0, 1) := by decide +kernel
theorem dX10_flow_24 : decode cX10_flow 24 = .ok (.getfield 38, 3) := by decide +kernel
theorem dX10_flow_27 : decode cX10_flow 27 = .ok (.iload_n 1, 1) := by decide +kernel
theorem dX10_flow_28 : decode cX10_flow 28 = .ok (.laload, 1) := by decide +kernel
theorem dX10_flow_29 : decode cX10_flow 29 = .ok (.aload_n 0, 1) := by decide +kernel
theorem dX10_flow_30 : decode cX10_flow 30 = .ok (.getfield 125, 3) := by decide +kernel
theorem dX10_flow_33 : decode cX10_flow 33 = .ok (.iconst 1, 1) := by decide +kernel
theorem dX10_flow_34 : decode cX10_flow 34 = .ok (.if_icmp .ne 10, 3) := by decide +kernel
theorem dX10_flow_37 : decode cX10_flow 37 = .ok (.aload_n 0, 1) := by decide +kernel
theorem dX10_flow_38 : decode cX10_flow 38 = .ok (.getfield 156, 3) := by decide +kernel
theorem dX10_flow_41 : decode cX10_flow 41 = .ok (.goto 4, 3) := by decide +kernel
theorem dX10_flow_44 : decode cX10_flow 44 = .ok (.lconst 1, 1) := by decide +kernel
theorem dX10_flow_45 : decode cX10_flow 45 = .ok (.iload_n 2, 1) := by decide +kernel
theorem dX10_flow_46 : decode cX10_flow 46 = .ok (.invokestatic 235, 3) := by decide +kernel
theorem dX10_flow_49 : decode cX10_flow 49 = .ok (.lreturn, 1) := by decide +kernel
theorem dX10_reducedCost_0 : decode cX10_reducedCost 0 = .ok (.aload_n 0, 1) := by decide +kernel
theorem dX10_reducedCost_1 : decode cX10_reducedCost 1 = .ok (.getfield 128, 3) := by decide +kernel
theorem dX10_reducedCost_4 : decode cX10_reducedCost 4 = .ok (.ifCond .eq 11, 3) := by decide +kernel
theorem dX10_reducedCost_7 : decode cX10_reducedCost 7 = .ok (.aload_n 0, 1) := by decide +kernel
theorem dX10_reducedCost_8 : decode cX10_reducedCost 8 = .ok (.iload_n 1, 1) := by decide +kernel
theorem dX10_reducedCost_9 : decode cX10_reducedCost 9 = .ok (.invokevirtual 149, 3) := by decide +kernel
theorem dX10_reducedCost_12 : decode cX10_reducedCost 12 = .ok (.ifCond .eq 7, 3) := by decide +kernel
theorem dX10_reducedCost_15 : decode cX10_reducedCost 15 = .ok (.invokestatic 228, 3) := by decide +kernel
theorem dX10_reducedCost_18 : decode cX10_reducedCost 18 = .ok (.lreturn, 1) := by decide +kernel
theorem dX10_reducedCost_19 : decode cX10_reducedCost 19 = .ok (.aload_n 0, 1) := by decide +kernel
theorem dX10_reducedCost_20 : decode cX10_reducedCost 20 = .ok (.invokevirtual 221, 3) := by decide +kernel
theorem dX10_reducedCost_23 : decode cX10_reducedCost 23 = .ok (.aload_n 0, 1) := by decide +kernel
theorem dX10_reducedCost_24 : decode cX10_reducedCost 24 = .ok (.iload_n 1, 1) := by decide +kernel
theorem dX10_reducedCost_25 : decode cX10_reducedCost 25 = .ok (.invokevirtual 168, 3) := by decide +kernel
theorem dX10_reducedCost_28 : decode cX10_reducedCost 28 = .ok (.lreturn, 1) := by decide +kernel
theorem dX10_potential_0 : decode cX10_potential 0 = .ok (.aload_n 0, 1) := by decide +kernel
theorem dX10_potential_1 : decode cX10_potential 1 = .ok (.getfield 128, 3) := by decide +kernel
theorem dX10_potential_4 : decode cX10_potential 4 = .ok (.ifCond .eq 11, 3) := by decide +kernel
theorem dX10_potential_7 : decode cX10_potential 7 = .ok (.aload_n 0, 1) := by decide +kernel
theorem dX10_potential_8 : decode cX10_potential 8 = .ok (.iload_n 1, 1) := by decide +kernel
theorem dX10_potential_9 : decode cX10_potential 9 = .ok (.invokevirtual 136, 3) := by decide +kernel
theorem dX10_potential_12 : decode cX10_potential 12 = .ok (.ifCond .eq 7, 3) := by decide +kernel
theorem dX10_potential_15 : decode cX10_potential 15 = .ok (.invokestatic 228, 3) := by decide +kernel
theorem dX10_potential_18 : decode cX10_potential 18 = .ok (.lreturn, 1) := by decide +kernel
theorem dX10_potential_19 : decode cX10_potential 19 = .ok (.aload_n 0, 1) := by decide +kernel
theorem dX10_potential_20 : decode cX10_potential 20 = .ok (.invokevirtual 221, 3) := by decide +kernel
theorem dX10_potential_23 : decode cX10_potential 23 = .ok (.aload_n 0, 1) := by decide +kernel
theorem dX10_potential_24 : decode cX10_potential 24 = .ok (.getfield 62, 3) := by decide +kernel
theorem dX10_potential_27 : decode cX10_potential 27 = .ok (.iload_n 1, 1) := by decide +kernel
theorem dX10_potential_28 : decode cX10_potential 28 = .ok (.laload, 1) := by decide +kernel
theorem dX10_potential_29 : decode cX10_potential 29 = .ok (.lreturn, 1) := by decide +kernel
theorem dX10_bound_0 : decode cX10_bound 0 = .ok (.aload_n 0, 1) := by decide +kernel
theorem dX10_bound_1 : decode cX10_bound 1 = .ok (.iload_n 1, 1) := by decide +kernel
theorem dX10_bound_2 : decode cX10_bound 2 = .ok (.invokevirtual 149, 3) := by decide +kernel
theorem dX10_bound_5 : decode cX10_bound 5 = .ok (.ifCond .eq 7, 3) := by decide +kernel
theorem dX10_bound_8 : decode cX10_bound 8 = .ok (.sipush (-10001), 3) := by decide +kernel
theorem dX10_bound_11 : decode cX10_bound 11 = .ok (.ireturn, 1) := by decide +kernel
theorem dX10_bound_12 : decode cX10_bound 12 = .ok (.aload_n 0, 1) := by decide +kernel
theorem dX10_bound_13 : decode cX10_bound 13 = .ok (.getfield 128, 3) := by decide +kernel
theorem dX10_bound_16 : decode cX10_bound 16 = .ok (.ifCond .ne 7, 3) := by decide +kernel
theorem dX10_bound_19 : decode cX10_bound 19 = .ok (.sipush (-10005), 3) := by decide +kernel
theorem dX10_bound_22 : decode cX10_bound 22 = .ok (.ireturn, 1) := by decide +kernel
theorem dX10_bound_23 : decode cX10_bound 23 = .ok (.aload_n 0, 1) := by decide +kernel
theorem dX10_bound_24 : decode cX10_bound 24 = .ok (.invokevirtual 221, 3) := by decide +kernel
theorem dX10_bound_27 : decode cX10_bound 27 = .ok (.aload_n 0, 1) := by decide +kernel
theorem dX10_bound_28 : decode cX10_bound 28 = .ok (.getfield 41, 3) := by decide +kernel
theorem dX10_bound_31 : decode cX10_bound 31 = .ok (.iload_n 1, 1) := by decide +kernel
theorem dX10_bound_32 : decode cX10_bound 32 = .ok (.iaload, 1) := by decide +kernel
theorem dX10_bound_33 : decode cX10_bound 33 = .ok (.ireturn, 1) := by decide +kernel
theorem dX10_tree_0 : decode cX10_tree 0 = .ok (.aload_n 0, 1) := by decide +kernel
theorem dX10_tree_1 : decode cX10_tree 1 = .ok (.iload_n 1, 1) := by decide +kernel
theorem dX10_tree_2 : decode cX10_tree 2 = .ok (.invokevirtual 136, 3) := by decide +kernel
theorem dX10_tree_5 : decode cX10_tree 5 = .ok (.ifCond .eq 7, 3) := by decide +kernel
theorem dX10_tree_8 : decode cX10_tree 8 = .ok (.sipush (-10001), 3) := by decide +kernel
theorem dX10_tree_11 : decode cX10_tree 11 = .ok (.ireturn, 1) := by decide +kernel
theorem dX10_tree_12 : decode cX10_tree 12 = .ok (.aload_n 0, 1) := by decide +kernel
theorem dX10_tree_13 : decode cX10_tree 13 = .ok (.getfield 128, 3) := by decide +kernel
theorem dX10_tree_16 : decode cX10_tree 16 = .ok (.ifCond .ne 7, 3) := by decide +kernel
theorem dX10_tree_19 : decode cX10_tree 19 = .ok (.sipush (-10005), 3) := by decide +kernel
theorem dX10_tree_22 : decode cX10_tree 22 = .ok (.ireturn, 1) := by decide +kernel
theorem dX10_tree_23 : decode cX10_tree 23 = .ok (.iload_n 2, 1) := by decide +kernel
theorem dX10_tree_24 : decode cX10_tree 24 = .ok (.iconst 0, 1) := by decide +kernel
theorem dX10_tree_25 : decode cX10_tree 25 = .ok (.iconst 3, 1) := by decide +kernel
theorem dX10_tree_26 : decode cX10_tree 26 = .ok (.invokestatic 132, 3) := by decide +kernel
theorem dX10_tree_29 : decode cX10_tree 29 = .ok (.ifCond .ne 7, 3) := by decide +kernel
theorem dX10_tree_32 : decode cX10_tree 32 = .ok (.sipush (-10002), 3) := by decide +kernel
theorem dX10_tree_35 : decode cX10_tree 35 = .ok (.ireturn, 1) := by decide +kernel
theorem dX10_tree_36 : decode cX10_tree 36 = .ok (.aload_n 0, 1) := by decide +kernel
theorem dX10_tree_37 : decode cX10_tree 37 = .ok (.invokevirtual 221, 3) := by decide +kernel
theorem dX10_tree_40 : decode cX10_tree 40 = .ok (.iconst 0, 1) := by decide +kernel
theorem dX10_tree_41 : decode cX10_tree 41 = .ok (.istore_n 3, 1) := by decide +kernel
theorem dX10_tree_42 : decode cX10_tree 42 = .ok (.iconst 0, 1) := by decide +kernel
theorem dX10_tree_43 : decode cX10_tree 43 = .ok (.istore 4, 2) := by decide +kernel
theorem dX10_tree_45 : decode cX10_tree 45 = .ok (.iload 4, 2) := by decide +kernel
theorem dX10_tree_47 : decode cX10_tree 47 = .ok (.aload_n 0, 1) := by decide +kernel
theorem dX10_tree_48 : decode cX10_tree 48 = .ok (.getfield 118, 3) := by decide +kernel
theorem dX10_tree_51 : decode cX10_tree 51 = .ok (.if_icmp .ge 27, 3) := by decide +kernel
theorem dX10_tree_54 : decode cX10_tree 54 = .ok (.iload_n 3, 1) := by decide +kernel
theorem dX10_tree_55 : decode cX10_tree 55 = .ok (.aload_n 0, 1) := by decide +kernel
theorem dX10_tree_56 : decode cX10_tree 56 = .ok (.iload 4, 2) := by decide +kernel
theorem dX10_tree_58 : decode cX10_tree 58 = .ok (.iload_n 1, 1) := by decide +kernel
theorem dX10_tree_59 : decode cX10_tree 59 = .ok (.invokevirtual 185, 3) := by decide +kernel
theorem dX10_tree_62 : decode cX10_tree 62 = .ok (.ifCond .eq 7, 3) := by decide +kernel
theorem dX10_tree_65 : decode cX10_tree 65 = .ok (.iconst 1, 1) := by decide +kernel
theorem dX10_tree_66 : decode cX10_tree 66 = .ok (.goto 4, 3) := by decide +kernel
theorem dX10_tree_69 : decode cX10_tree 69 = .ok (.iconst 0, 1) := by decide +kernel
theorem dX10_tree_70 : decode cX10_tree 70 = .ok (.iadd, 1) := by decide +kernel
theorem dX10_tree_71 : decode cX10_tree 71 = .ok (.istore_n 3, 1) := by decide +kernel
theorem dX10_tree_72 : decode cX10_tree 72 = .ok (.iinc 4 1, 3) := by decide +kernel
theorem dX10_tree_75 : decode cX10_tree 75 = .ok (.goto (-30), 3) := by decide +kernel
theorem dX10_tree_78 : decode cX10_tree 78 = .ok (.iload_n 2, 1) := by decide +kernel
theorem dX10_tree_79 : decode cX10_tree 79 = .ok (.ifCond .ne 30, 3) := by decide +kernel
theorem dX10_tree_82 : decode cX10_tree 82 = .ok (.aload_n 0, 1) := by decide +kernel
theorem dX10_tree_83 : decode cX10_tree 83 = .ok (.getfield 53, 3) := by decide +kernel
theorem dX10_tree_86 : decode cX10_tree 86 = .ok (.iload_n 1, 1) := by decide +kernel
theorem dX10_tree_87 : decode cX10_tree 87 = .ok (.iaload, 1) := by decide +kernel
theorem dX10_tree_88 : decode cX10_tree 88 = .ok (.bipush 8, 2) := by decide +kernel
theorem dX10_tree_90 : decode cX10_tree 90 = .ok (.if_icmp .ne 10, 3) := by decide +kernel
theorem dX10_tree_93 : decode cX10_tree 93 = .ok (.aload_n 0, 1) := by decide +kernel
theorem dX10_tree_94 : decode cX10_tree 94 = .ok (.getfield 118, 3) := by decide +kernel
theorem dX10_tree_97 : decode cX10_tree 97 = .ok (.goto 44, 3) := by decide +kernel
theorem dX10_tree_100 : decode cX10_tree 100 = .ok (.aload_n 0, 1) := by decide +kernel
theorem dX10_tree_101 : decode cX10_tree 101 = .ok (.getfield 53, 3) := by decide +kernel
theorem dX10_tree_104 : decode cX10_tree 104 = .ok (.iload_n 1, 1) := by decide +kernel
theorem dX10_tree_105 : decode cX10_tree 105 = .ok (.iaload, 1) := by decide +kernel
theorem dX10_tree_106 : decode cX10_tree 106 = .ok (.goto 35, 3) := by decide +kernel
theorem dX10_tree_109 : decode cX10_tree 109 = .ok (.iload_n 2, 1) := by decide +kernel
theorem dX10_tree_110 : decode cX10_tree 110 = .ok (.iconst 1, 1) := by decide +kernel
theorem dX10_tree_111 : decode cX10_tree 111 = .ok (.if_icmp .ne 15, 3) := by decide +kernel
theorem dX10_tree_114 : decode cX10_tree 114 = .ok (.aload_n 0, 1) := by decide +kernel
theorem dX10_tree_115 : decode cX10_tree 115 = .ok (.getfield 56, 3) := by decide +kernel
theorem dX10_tree_118 : decode cX10_tree 118 = .ok (.iload_n 1, 1) := by decide +kernel
theorem dX10_tree_119 : decode cX10_tree 119 = .ok (.iaload, 1) := by decide +kernel
theorem dX10_tree_120 : decode cX10_tree 120 = .ok (.invokestatic 224, 3) := by decide +kernel
theorem dX10_tree_123 : decode cX10_tree 123 = .ok (.goto 18, 3) := by decide +kernel
theorem dX10_tree_126 : decode cX10_tree 126 = .ok (.iload_n 2, 1) := by decide +kernel
theorem dX10_tree_127 : decode cX10_tree 127 = .ok (.iconst 2, 1) := by decide +kernel
theorem dX10_tree_128 : decode cX10_tree 128 = .ok (.if_icmp .ne 12, 3) := by decide +kernel
theorem dX10_tree_131 : decode cX10_tree 131 = .ok (.aload_n 0, 1) := by decide +kernel
theorem dX10_tree_132 : decode cX10_tree 132 = .ok (.getfield 59, 3) := by decide +kernel
theorem dX10_tree_135 : decode cX10_tree 135 = .ok (.iload_n 1, 1) := by decide +kernel
theorem dX10_tree_136 : decode cX10_tree 136 = .ok (.iaload, 1) := by decide +kernel
theorem dX10_tree_137 : decode cX10_tree 137 = .ok (.goto 4, 3) := by decide +kernel
theorem dX10_tree_140 : decode cX10_tree 140 = .ok (.iload_n 3, 1) := by decide +kernel
theorem dX10_tree_141 : decode cX10_tree 141 = .ok (.ireturn, 1) := by decide +kernel
theorem dX10_preorder_0 : decode cX10_preorder 0 = .ok (.aload_n 0, 1) := by decide +kernel
theorem dX10_preorder_1 : decode cX10_preorder 1 = .ok (.getfield 128, 3) := by decide +kernel
theorem dX10_preorder_4 : decode cX10_preorder 4 = .ok (.ifCond .ne 7, 3) := by decide +kernel
theorem dX10_preorder_7 : decode cX10_preorder 7 = .ok (.sipush (-10005), 3) := by decide +kernel
theorem dX10_preorder_10 : decode cX10_preorder 10 = .ok (.ireturn, 1) := by decide +kernel
theorem dX10_preorder_11 : decode cX10_preorder 11 = .ok (.iload_n 1, 1) := by decide +kernel
theorem dX10_preorder_12 : decode cX10_preorder 12 = .ok (.ifCond .ge 7, 3) := by decide +kernel
theorem dX10_preorder_15 : decode cX10_preorder 15 = .ok (.sipush (-10002), 3) := by decide +kernel
theorem dX10_preorder_18 : decode cX10_preorder 18 = .ok (.ireturn, 1) := by decide +kernel
theorem dX10_preorder_19 : decode cX10_preorder 19 = .ok (.iload_n 1, 1) := by decide +kernel
theorem dX10_preorder_20 : decode cX10_preorder 20 = .ok (.aload_n 0, 1) := by decide +kernel
theorem dX10_preorder_21 : decode cX10_preorder 21 = .ok (.getfield 118, 3) := by decide +kernel
theorem dX10_preorder_24 : decode cX10_preorder 24 = .ok (.if_icmp .le 7, 3) := by decide +kernel
theorem dX10_preorder_27 : decode cX10_preorder 27 = .ok (.sipush (-10007), 3) := by decide +kernel
theorem dX10_preorder_30 : decode cX10_preorder 30 = .ok (.ireturn, 1) := by decide +kernel
theorem dX10_preorder_31 : decode cX10_preorder 31 = .ok (.aload_n 0, 1) := by decide +kernel
theorem dX10_preorder_32 : decode cX10_preorder 32 = .ok (.invokevirtual 221, 3) := by decide +kernel
theorem dX10_preorder_35 : decode cX10_preorder 35 = .ok (.bipush 8, 2) := by decide +kernel
theorem dX10_preorder_37 : decode cX10_preorder 37 = .ok (.istore_n 2, 1) := by decide +kernel
theorem dX10_preorder_38 : decode cX10_preorder 38 = .ok (.iconst 0, 1) := by decide +kernel
theorem dX10_preorder_39 : decode cX10_preorder 39 = .ok (.istore_n 3, 1) := by decide +kernel
theorem dX10_preorder_40 : decode cX10_preorder 40 = .ok (.iload_n 3, 1) := by decide +kernel
theorem dX10_preorder_41 : decode cX10_preorder 41 = .ok (.iload_n 1, 1) := by decide +kernel
theorem dX10_preorder_42 : decode cX10_preorder 42 = .ok (.if_icmp .ge 15, 3) := by decide +kernel
theorem dX10_preorder_45 : decode cX10_preorder 45 = .ok (.aload_n 0, 1) := by decide +kernel
theorem dX10_preorder_46 : decode cX10_preorder 46 = .ok (.iload_n 2, 1) := by decide +kernel
theorem dX10_preorder_47 : decode cX10_preorder 47 = .ok (.invokevirtual 239, 3) := by decide +kernel
theorem dX10_preorder_50 : decode cX10_preorder 50 = .ok (.istore_n 2, 1) := by decide +kernel
theorem dX10_preorder_51 : decode cX10_preorder 51 = .ok (.iinc 3 1, 3) := by decide +kernel
theorem dX10_preorder_54 : decode cX10_preorder 54 = .ok (.goto (-14), 3) := by decide +kernel
theorem dX10_preorder_57 : decode cX10_preorder 57 = .ok (.iload_n 2, 1) := by decide +kernel
theorem dX10_preorder_58 : decode cX10_preorder 58 = .ok (.bipush 8, 2) := by decide +kernel
theorem dX10_preorder_60 : decode cX10_preorder 60 = .ok (.if_icmp .ne 10, 3) := by decide +kernel
theorem dX10_preorder_63 : decode cX10_preorder 63 = .ok (.aload_n 0, 1) := by decide +kernel
theorem dX10_preorder_64 : decode cX10_preorder 64 = .ok (.getfield 118, 3) := by decide +kernel
theorem dX10_preorder_67 : decode cX10_preorder 67 = .ok (.goto 4, 3) := by decide +kernel
theorem dX10_preorder_70 : decode cX10_preorder 70 = .ok (.iload_n 2, 1) := by decide +kernel
theorem dX10_preorder_71 : decode cX10_preorder 71 = .ok (.ireturn, 1) := by decide +kernel
theorem dX10_limit_0 : decode cX10_limit 0 = .ok (.aload_n 0, 1) := by decide +kernel
theorem dX10_limit_1 : decode cX10_limit 1 = .ok (.getfield 128, 3) := by decide +kernel
theorem dX10_limit_4 : decode cX10_limit 4 = .ok (.ifCond .ne 7, 3) := by decide +kernel
theorem dX10_limit_7 : decode cX10_limit 7 = .ok (.invokestatic 228, 3) := by decide +kernel
theorem dX10_limit_10 : decode cX10_limit 10 = .ok (.lreturn, 1) := by decide +kernel
theorem dX10_limit_11 : decode cX10_limit 11 = .ok (.aload_n 0, 1) := by decide +kernel
theorem dX10_limit_12 : decode cX10_limit 12 = .ok (.invokevirtual 221, 3) := by decide +kernel
theorem dX10_limit_15 : decode cX10_limit 15 = .ok (.aload_n 0, 1) := by decide +kernel
theorem dX10_limit_16 : decode cX10_limit 16 = .ok (.invokevirtual 269, 3) := by decide +kernel
theorem dX10_limit_19 : decode cX10_limit 19 = .ok (.iload_n 1, 1) := by decide +kernel
theorem dX10_limit_20 : decode cX10_limit 20 = .ok (.ifCond .eq 29, 3) := by decide +kernel
theorem dX10_limit_23 : decode cX10_limit 23 = .ok (.aload_n 0, 1) := by decide +kernel
theorem dX10_limit_24 : decode cX10_limit 24 = .ok (.getfield 251, 3) := by decide +kernel
theorem dX10_limit_27 : decode cX10_limit 27 = .ok (.ifCond .eq 18, 3) := by decide +kernel
theorem dX10_limit_30 : decode cX10_limit 30 = .ok (.aload_n 0, 1) := by decide +kernel
theorem dX10_limit_31 : decode cX10_limit 31 = .ok (.getfield 257, 3) := by decide +kernel
theorem dX10_limit_34 : decode cX10_limit 34 = .ok (.aload_n 0, 1) := by decide +kernel
theorem dX10_limit_35 : decode cX10_limit 35 = .ok (.getfield 254, 3) := by decide +kernel
theorem dX10_limit_38 : decode cX10_limit 38 = .ok (.iload_n 2, 1) := by decide +kernel
theorem dX10_limit_39 : decode cX10_limit 39 = .ok (.invokestatic 235, 3) := by decide +kernel
theorem dX10_limit_42 : decode cX10_limit 42 = .ok (.goto 6, 3) := by decide +kernel
theorem dX10_limit_45 : decode cX10_limit 45 = .ok (.invokestatic 228, 3) := by decide +kernel
theorem dX10_limit_48 : decode cX10_limit 48 = .ok (.lreturn, 1) := by decide +kernel
theorem dX10_limit_49 : decode cX10_limit 49 = .ok (.aload_n 0, 1) := by decide +kernel
theorem dX10_limit_50 : decode cX10_limit 50 = .ok (.getfield 242, 3) := by decide +kernel
theorem dX10_limit_53 : decode cX10_limit 53 = .ok (.ifCond .eq 18, 3) := by decide +kernel
theorem dX10_limit_56 : decode cX10_limit 56 = .ok (.aload_n 0, 1) := by decide +kernel
theorem dX10_limit_57 : decode cX10_limit 57 = .ok (.getfield 248, 3) := by decide +kernel
theorem dX10_limit_60 : decode cX10_limit 60 = .ok (.aload_n 0, 1) := by decide +kernel
theorem dX10_limit_61 : decode cX10_limit 61 = .ok (.getfield 245, 3) := by decide +kernel
theorem dX10_limit_64 : decode cX10_limit 64 = .ok (.iload_n 2, 1) := by decide +kernel
theorem dX10_limit_65 : decode cX10_limit 65 = .ok (.invokestatic 235, 3) := by decide +kernel
theorem dX10_limit_68 : decode cX10_limit 68 = .ok (.goto 6, 3) := by decide +kernel
theorem dX10_limit_71 : decode cX10_limit 71 = .ok (.invokestatic 228, 3) := by decide +kernel
theorem dX10_limit_74 : decode cX10_limit 74 = .ok (.lreturn, 1) := by decide +kernel
theorem dX10_layLine_0 : decode cX10_layLine 0 = .ok (.aload_n 0, 1) := by decide +kernel
theorem dX10_layLine_1 : decode cX10_layLine 1 = .ok (.lconst 0, 1) := by decide +kernel
theorem dX10_layLine_2 : decode cX10_layLine 2 = .ok (.putfield 272, 3) := by decide +kernel
theorem dX10_layLine_5 : decode cX10_layLine 5 = .ok (.aload_n 0, 1) := by decide +kernel
theorem dX10_layLine_6 : decode cX10_layLine 6 = .ok (.lconst 0, 1) := by decide +kernel
theorem dX10_layLine_7 : decode cX10_layLine 7 = .ok (.putfield 275, 3) := by decide +kernel
theorem dX10_layLine_10 : decode cX10_layLine 10 = .ok (.iconst 0, 1) := by decide +kernel
theorem dX10_layLine_11 : decode cX10_layLine 11 = .ok (.istore_n 1, 1) := by decide +kernel
theorem dX10_layLine_12 : decode cX10_layLine 12 = .ok (.iload_n 1, 1) := by decide +kernel
theorem dX10_layLine_13 : decode cX10_layLine 13 = .ok (.aload_n 0, 1) := by decide +kernel
theorem dX10_layLine_14 : decode cX10_layLine 14 = .ok (.getfield 122, 3) := by decide +kernel
theorem dX10_layLine_17 : decode cX10_layLine 17 = .ok (.if_icmp .ge 99, 3) := by decide +kernel
theorem dX10_layLine_20 : decode cX10_layLine 20 = .ok (.aload_n 0, 1) := by decide +kernel
theorem dX10_layLine_21 : decode cX10_layLine 21 = .ok (.getfield 125, 3) := by decide +kernel
theorem dX10_layLine_24 : decode cX10_layLine 24 = .ok (.ifCond .ne 52, 3) := by decide +kernel
theorem dX10_layLine_27 : decode cX10_layLine 27 = .ok (.aload_n 0, 1) := by decide +kernel
theorem dX10_layLine_28 : decode cX10_layLine 28 = .ok (.dup, 1) := by decide +kernel
theorem dX10_layLine_29 : decode cX10_layLine 29 = .ok (.getfield 272, 3) := by decide +kernel
theorem dX10_layLine_32 : decode cX10_layLine 32 = .ok (.aload_n 0, 1) := by decide +kernel
theorem dX10_layLine_33 : decode cX10_layLine 33 = .ok (.getfield 38, 3) := by decide +kernel
theorem dX10_layLine_36 : decode cX10_layLine 36 = .ok (.iload_n 1, 1) := by decide +kernel
theorem dX10_layLine_37 : decode cX10_layLine 37 = .ok (.laload, 1) := by decide +kernel
theorem dX10_layLine_38 : decode cX10_layLine 38 = .ok (.aload_n 0, 1) := by decide +kernel
theorem dX10_layLine_39 : decode cX10_layLine 39 = .ok (.getfield 19, 3) := by decide +kernel
theorem dX10_layLine_42 : decode cX10_layLine 42 = .ok (.iload_n 1, 1) := by decide +kernel
theorem dX10_layLine_43 : decode cX10_layLine 43 = .ok (.iaload, 1) := by decide +kernel
theorem dX10_layLine_44 : decode cX10_layLine 44 = .ok (.i2l, 1) := by decide +kernel
theorem dX10_layLine_45 : decode cX10_layLine 45 = .ok (.lmul, 1) := by decide +kernel
theorem dX10_layLine_46 : decode cX10_layLine 46 = .ok (.ladd, 1) := by decide +kernel
theorem dX10_layLine_47 : decode cX10_layLine 47 = .ok (.putfield 272, 3) := by decide +kernel
theorem dX10_layLine_50 : decode cX10_layLine 50 = .ok (.aload_n 0, 1) := by decide +kernel
theorem dX10_layLine_51 : decode cX10_layLine 51 = .ok (.dup, 1) := by decide +kernel
theorem dX10_layLine_52 : decode cX10_layLine 52 = .ok (.getfield 275, 3) := by decide +kernel
theorem dX10_layLine_55 : decode cX10_layLine 55 = .ok (.aload_n 0, 1) := by decide +kernel
theorem dX10_layLine_56 : decode cX10_layLine 56 = .ok (.getfield 38, 3) := by decide +kernel
theorem dX10_layLine_59 : decode cX10_layLine 59 = .ok (.iload_n 1, 1) := by decide +kernel
theorem dX10_layLine_60 : decode cX10_layLine 60 = .ok (.laload, 1) := by decide +kernel
theorem dX10_layLine_61 : decode cX10_layLine 61 = .ok (.aload_n 0, 1) := by decide +kernel
theorem dX10_layLine_62 : decode cX10_layLine 62 = .ok (.getfield 22, 3) := by decide +kernel
theorem dX10_layLine_65 : decode cX10_layLine 65 = .ok (.iload_n 1, 1) := by decide +kernel
theorem dX10_layLine_66 : decode cX10_layLine 66 = .ok (.iaload, 1) := by decide +kernel
theorem dX10_layLine_67 : decode cX10_layLine 67 = .ok (.i2l, 1) := by decide +kernel
theorem dX10_layLine_68 : decode cX10_layLine 68 = .ok (.lmul, 1) := by decide +kernel
theorem dX10_layLine_69 : decode cX10_layLine 69 = .ok (.ladd, 1) := by decide +kernel
theorem dX10_layLine_70 : decode cX10_layLine 70 = .ok (.putfield 275, 3) := by decide +kernel
theorem dX10_layLine_73 : decode cX10_layLine 73 = .ok (.goto 37, 3) := by decide +kernel
theorem dX10_layLine_76 : decode cX10_layLine 76 = .ok (.aload_n 0, 1) := by decide +kernel
theorem dX10_layLine_77 : decode cX10_layLine 77 = .ok (.iload_n 1, 1) := by decide +kernel
theorem dX10_layLine_78 : decode cX10_layLine 78 = .ok (.invokevirtual 168, 3) := by decide +kernel
theorem dX10_layLine_81 : decode cX10_layLine 81 = .ok (.lstore_n 2, 1) := by decide +kernel
theorem dX10_layLine_82 : decode cX10_layLine 82 = .ok (.aload_n 0, 1) := by decide +kernel
theorem dX10_layLine_83 : decode cX10_layLine 83 = .ok (.dup, 1) := by decide +kernel
theorem dX10_layLine_84 : decode cX10_layLine 84 = .ok (.getfield 272, 3) := by decide +kernel
theorem dX10_layLine_87 : decode cX10_layLine 87 = .ok (.lload_n 2, 1) := by decide +kernel
theorem dX10_layLine_88 : decode cX10_layLine 88 = .ok (.lconst 0, 1) := by decide +kernel
theorem dX10_layLine_89 : decode cX10_layLine 89 = .ok (.lcmp, 1) := by decide +kernel
theorem dX10_layLine_90 : decode cX10_layLine 90 = .ok (.ifCond .ge 15, 3) := by decide +kernel
theorem dX10_layLine_93 : decode cX10_layLine 93 = .ok (.lload_n 2, 1) := by decide +kernel
theorem dX10_layLine_94 : decode cX10_layLine 94 = .ok (.aload_n 0, 1) := by decide +kernel
theorem dX10_layLine_95 : decode cX10_layLine 95 = .ok (.getfield 16, 3) := by decide +kernel
theorem dX10_layLine_98 : decode cX10_layLine 98 = .ok (.iload_n 1, 1) := by decide +kernel
theorem dX10_layLine_99 : decode cX10_layLine 99 = .ok (.iaload, 1) := by decide +kernel
theorem dX10_layLine_100 : decode cX10_layLine 100 = .ok (.i2l, 1) := by decide +kernel
theorem dX10_layLine_101 : decode cX10_layLine 101 = .ok (.lmul, 1) := by decide +kernel
theorem dX10_layLine_102 : decode cX10_layLine 102 = .ok (.goto 4, 3) := by decide +kernel
theorem dX10_layLine_105 : decode cX10_layLine 105 = .ok (.lconst 0, 1) := by decide +kernel
theorem dX10_layLine_106 : decode cX10_layLine 106 = .ok (.ladd, 1) := by decide +kernel
theorem dX10_layLine_107 : decode cX10_layLine 107 = .ok (.putfield 272, 3) := by decide +kernel
theorem dX10_layLine_110 : decode cX10_layLine 110 = .ok (.iinc 1 1, 3) := by decide +kernel
theorem dX10_layLine_113 : decode cX10_layLine 113 = .ok (.goto (-101), 3) := by decide +kernel
theorem dX10_layLine_116 : decode cX10_layLine 116 = .ok (.iconst 0, 1) := by decide +kernel
theorem dX10_layLine_117 : decode cX10_layLine 117 = .ok (.istore_n 1, 1) := by decide +kernel
theorem dX10_layLine_118 : decode cX10_layLine 118 = .ok (.iload_n 1, 1) := by decide +kernel
theorem dX10_layLine_119 : decode cX10_layLine 119 = .ok (.aload_n 0, 1) := by decide +kernel
theorem dX10_layLine_120 : decode cX10_layLine 120 = .ok (.getfield 118, 3) := by decide +kernel
theorem dX10_layLine_123 : decode cX10_layLine 123 = .ok (.if_icmp .ge 63, 3) := by decide +kernel
theorem dX10_layLine_126 : decode cX10_layLine 126 = .ok (.aload_n 0, 1) := by decide +kernel
theorem dX10_layLine_127 : decode cX10_layLine 127 = .ok (.getfield 125, 3) := by decide +kernel
theorem dX10_layLine_130 : decode cX10_layLine 130 = .ok (.iconst 1, 1) := by decide +kernel
theorem dX10_layLine_131 : decode cX10_layLine 131 = .ok (.if_icmp .ne 55, 3) := by decide +kernel
theorem dX10_layLine_134 : decode cX10_layLine 134 = .ok (.aload_n 0, 1) := by decide +kernel
theorem dX10_layLine_135 : decode cX10_layLine 135 = .ok (.dup, 1) := by decide +kernel
theorem dX10_layLine_136 : decode cX10_layLine 136 = .ok (.getfield 272, 3) := by decide +kernel
theorem dX10_layLine_139 : decode cX10_layLine 139 = .ok (.aload_n 0, 1) := by decide +kernel
theorem dX10_layLine_140 : decode cX10_layLine 140 = .ok (.getfield 62, 3) := by decide +kernel
theorem dX10_layLine_143 : decode cX10_layLine 143 = .ok (.iload_n 1, 1) := by decide +kernel
theorem dX10_layLine_144 : decode cX10_layLine 144 = .ok (.laload, 1) := by decide +kernel
theorem dX10_layLine_145 : decode cX10_layLine 145 = .ok (.aload_n 0, 1) := by decide +kernel
theorem dX10_layLine_146 : decode cX10_layLine 146 = .ok (.getfield 25, 3) := by decide +kernel
theorem dX10_layLine_149 : decode cX10_layLine 149 = .ok (.iload_n 1, 1) := by decide +kernel
theorem dX10_layLine_150 : decode cX10_layLine 150 = .ok (.iaload, 1) := by decide +kernel
theorem dX10_layLine_151 : decode cX10_layLine 151 = .ok (.i2l, 1) := by decide +kernel
theorem dX10_layLine_152 : decode cX10_layLine 152 = .ok (.lmul, 1) := by decide +kernel
theorem dX10_layLine_153 : decode cX10_layLine 153 = .ok (.ladd, 1) := by decide +kernel
theorem dX10_layLine_154 : decode cX10_layLine 154 = .ok (.putfield 272, 3) := by decide +kernel
theorem dX10_layLine_157 : decode cX10_layLine 157 = .ok (.aload_n 0, 1) := by decide +kernel
theorem dX10_layLine_158 : decode cX10_layLine 158 = .ok (.dup, 1) := by decide +kernel
theorem dX10_layLine_159 : decode cX10_layLine 159 = .ok (.getfield 275, 3) := by decide +kernel
theorem dX10_layLine_162 : decode cX10_layLine 162 = .ok (.aload_n 0, 1) := by decide +kernel
theorem dX10_layLine_163 : decode cX10_layLine 163 = .ok (.getfield 62, 3) := by decide +kernel
theorem dX10_layLine_166 : decode cX10_layLine 166 = .ok (.iload_n 1, 1) := by decide +kernel
theorem dX10_layLine_167 : decode cX10_layLine 167 = .ok (.laload, 1) := by decide +kernel
theorem dX10_layLine_168 : decode cX10_layLine 168 = .ok (.aload_n 0, 1) := by decide +kernel
theorem dX10_layLine_169 : decode cX10_layLine 169 = .ok (.getfield 28, 3) := by decide +kernel
theorem dX10_layLine_172 : decode cX10_layLine 172 = .ok (.iload_n 1, 1) := by decide +kernel
theorem dX10_layLine_173 : decode cX10_layLine 173 = .ok (.iaload, 1) := by decide +kernel
theorem dX10_layLine_174 : decode cX10_layLine 174 = .ok (.i2l, 1) := by decide +kernel
theorem dX10_layLine_175 : decode cX10_layLine 175 = .ok (.lmul, 1) := by decide +kernel
theorem dX10_layLine_176 : decode cX10_layLine 176 = .ok (.ladd, 1) := by decide +kernel
theorem dX10_layLine_177 : decode cX10_layLine 177 = .ok (.putfield 275, 3) := by decide +kernel
theorem dX10_layLine_180 : decode cX10_layLine 180 = .ok (.iinc 1 1, 3) := by decide +kernel
theorem dX10_layLine_183 : decode cX10_layLine 183 = .ok (.goto (-65), 3) := by decide +kernel
theorem dX10_layLine_186 : decode cX10_layLine 186 = .ok (.return_, 1) := by decide +kernel
theorem dX10_insertPoint_0 : decode cX10_insertPoint 0 = .ok (.aload_n 0, 1) := by decide +kernel
theorem dX10_insertPoint_1 : decode cX10_insertPoint 1 = .ok (.getfield 278, 3) := by decide +kernel
theorem dX10_insertPoint_4 : decode cX10_insertPoint 4 = .ok (.istore 6, 2) := by decide +kernel
theorem dX10_insertPoint_6 : decode cX10_insertPoint 6 = .ok (.iload 6, 2) := by decide +kernel
theorem dX10_insertPoint_8 : decode cX10_insertPoint 8 = .ok (.iload_n 1, 1) := by decide +kernel
theorem dX10_insertPoint_9 : decode cX10_insertPoint 9 = .ok (.if_icmp .le 105, 3) := by decide +kernel
theorem dX10_insertPoint_12 : decode cX10_insertPoint 12 = .ok (.aload_n 0, 1) := by decide +kernel
theorem dX10_insertPoint_13 : decode cX10_insertPoint 13 = .ok (.getfield 84, 3) := by decide +kernel
theorem dX10_insertPoint_16 : decode cX10_insertPoint 16 = .ok (.iload 6, 2) := by decide +kernel
theorem dX10_insertPoint_18 : decode cX10_insertPoint 18 = .ok (.aload_n 0, 1) := by decide +kernel
theorem dX10_insertPoint_19 : decode cX10_insertPoint 19 = .ok (.getfield 84, 3) := by decide +kernel
theorem dX10_insertPoint_22 : decode cX10_insertPoint 22 = .ok (.iload 6, 2) := by decide +kernel
theorem dX10_insertPoint_24 : decode cX10_insertPoint 24 = .ok (.iconst 1, 1) := by decide +kernel
theorem dX10_insertPoint_25 : decode cX10_insertPoint 25 = .ok (.isub, 1) := by decide +kernel
theorem dX10_insertPoint_26 : decode cX10_insertPoint 26 = .ok (.laload, 1) := by decide +kernel
theorem dX10_insertPoint_27 : decode cX10_insertPoint 27 = .ok (.lastore, 1) := by decide +kernel
theorem dX10_insertPoint_28 : decode cX10_insertPoint 28 = .ok (.aload_n 0, 1) := by decide +kernel
theorem dX10_insertPoint_29 : decode cX10_insertPoint 29 = .ok (.getfield 87, 3) := by decide +kernel
theorem dX10_insertPoint_32 : decode cX10_insertPoint 32 = .ok (.iload 6, 2) := by decide +kernel
theorem dX10_insertPoint_34 : decode cX10_insertPoint 34 = .ok (.aload_n 0, 1) := by decide +kernel
theorem dX10_insertPoint_35 : decode cX10_insertPoint 35 = .ok (.getfield 87, 3) := by decide +kernel
theorem dX10_insertPoint_38 : decode cX10_insertPoint 38 = .ok (.iload 6, 2) := by decide +kernel
theorem dX10_insertPoint_40 : decode cX10_insertPoint 40 = .ok (.iconst 1, 1) := by decide +kernel
theorem dX10_insertPoint_41 : decode cX10_insertPoint 41 = .ok (.isub, 1) := by decide +kernel
theorem dX10_insertPoint_42 : decode cX10_insertPoint 42 = .ok (.laload, 1) := by decide +kernel
theorem dX10_insertPoint_43 : decode cX10_insertPoint 43 = .ok (.lastore, 1) := by decide +kernel
theorem dX10_insertPoint_44 : decode cX10_insertPoint 44 = .ok (.aload_n 0, 1) := by decide +kernel
theorem dX10_insertPoint_45 : decode cX10_insertPoint 45 = .ok (.getfield 90, 3) := by decide +kernel
theorem dX10_insertPoint_48 : decode cX10_insertPoint 48 = .ok (.iload 6, 2) := by decide +kernel
theorem dX10_insertPoint_50 : decode cX10_insertPoint 50 = .ok (.aload_n 0, 1) := by decide +kernel
theorem dX10_insertPoint_51 : decode cX10_insertPoint 51 = .ok (.getfield 90, 3) := by decide +kernel
theorem dX10_insertPoint_54 : decode cX10_insertPoint 54 = .ok (.iload 6, 2) := by decide +kernel
theorem dX10_insertPoint_56 : decode cX10_insertPoint 56 = .ok (.iconst 1, 1) := by decide +kernel
theorem dX10_insertPoint_57 : decode cX10_insertPoint 57 = .ok (.isub, 1) := by decide +kernel
theorem dX10_insertPoint_58 : decode cX10_insertPoint 58 = .ok (.laload, 1) := by decide +kernel
theorem dX10_insertPoint_59 : decode cX10_insertPoint 59 = .ok (.lastore, 1) := by decide +kernel
theorem dX10_insertPoint_60 : decode cX10_insertPoint 60 = .ok (.aload_n 0, 1) := by decide +kernel
theorem dX10_insertPoint_61 : decode cX10_insertPoint 61 = .ok (.getfield 93, 3) := by decide +kernel
theorem dX10_insertPoint_64 : decode cX10_insertPoint 64 = .ok (.iload 6, 2) := by decide +kernel
theorem dX10_insertPoint_66 : decode cX10_insertPoint 66 = .ok (.aload_n 0, 1) := by decide +kernel
theorem dX10_insertPoint_67 : decode cX10_insertPoint 67 = .ok (.getfield 93, 3) := by decide +kernel
theorem dX10_insertPoint_70 : decode cX10_insertPoint 70 = .ok (.iload 6, 2) := by decide +kernel
theorem dX10_insertPoint_72 : decode cX10_insertPoint 72 = .ok (.iconst 1, 1) := by decide +kernel
theorem dX10_insertPoint_73 : decode cX10_insertPoint 73 = .ok (.isub, 1) := by decide +kernel
theorem dX10_insertPoint_74 : decode cX10_insertPoint 74 = .ok (.laload, 1) := by decide +kernel
theorem dX10_insertPoint_75 : decode cX10_insertPoint 75 = .ok (.lastore, 1) := by decide +kernel
theorem dX10_insertPoint_76 : decode cX10_insertPoint 76 = .ok (.aload_n 0, 1) := by decide +kernel
theorem dX10_insertPoint_77 : decode cX10_insertPoint 77 = .ok (.getfield 96, 3) := by decide +kernel
theorem dX10_insertPoint_80 : decode cX10_insertPoint 80 = .ok (.iload 6, 2) := by decide +kernel
theorem dX10_insertPoint_82 : decode cX10_insertPoint 82 = .ok (.aload_n 0, 1) := by decide +kernel
theorem dX10_insertPoint_83 : decode cX10_insertPoint 83 = .ok (.getfield 96, 3) := by decide +kernel
theorem dX10_insertPoint_86 : decode cX10_insertPoint 86 = .ok (.iload 6, 2) := by decide +kernel
theorem dX10_insertPoint_88 : decode cX10_insertPoint 88 = .ok (.iconst 1, 1) := by decide +kernel
theorem dX10_insertPoint_89 : decode cX10_insertPoint 89 = .ok (.isub, 1) := by decide +kernel
theorem dX10_insertPoint_90 : decode cX10_insertPoint 90 = .ok (.baload, 1) := by decide +kernel
theorem dX10_insertPoint_91 : decode cX10_insertPoint 91 = .ok (.bastore, 1) := by decide +kernel
theorem dX10_insertPoint_92 : decode cX10_insertPoint 92 = .ok (.aload_n 0, 1) := by decide +kernel
theorem dX10_insertPoint_93 : decode cX10_insertPoint 93 = .ok (.getfield 99, 3) := by decide +kernel
theorem dX10_insertPoint_96 : decode cX10_insertPoint 96 = .ok (.iload 6, 2) := by decide +kernel
theorem dX10_insertPoint_98 : decode cX10_insertPoint 98 = .ok (.aload_n 0, 1) := by decide +kernel
theorem dX10_insertPoint_99 : decode cX10_insertPoint 99 = .ok (.getfield 99, 3) := by decide +kernel
theorem dX10_insertPoint_102 : decode cX10_insertPoint 102 = .ok (.iload 6, 2) := by decide +kernel
theorem dX10_insertPoint_104 : decode cX10_insertPoint 104 = .ok (.iconst 1, 1) := by decide +kernel
theorem dX10_insertPoint_105 : decode cX10_insertPoint 105 = .ok (.isub, 1) := by decide +kernel
theorem dX10_insertPoint_106 : decode cX10_insertPoint 106 = .ok (.laload, 1) := by decide +kernel
theorem dX10_insertPoint_107 : decode cX10_insertPoint 107 = .ok (.lastore, 1) := by decide +kernel
theorem dX10_insertPoint_108 : decode cX10_insertPoint 108 = .ok (.iinc 6 (-1), 3) := by decide +kernel
theorem dX10_insertPoint_111 : decode cX10_insertPoint 111 = .ok (.goto (-105), 3) := by decide +kernel
theorem dX10_insertPoint_114 : decode cX10_insertPoint 114 = .ok (.aload_n 0, 1) := by decide +kernel
theorem dX10_insertPoint_115 : decode cX10_insertPoint 115 = .ok (.dup, 1) := by decide +kernel
theorem dX10_insertPoint_116 : decode cX10_insertPoint 116 = .ok (.getfield 278, 3) := by decide +kernel
theorem dX10_insertPoint_119 : decode cX10_insertPoint 119 = .ok (.iconst 1, 1) := by decide +kernel
theorem dX10_insertPoint_120 : decode cX10_insertPoint 120 = .ok (.iadd, 1) := by decide +kernel
theorem dX10_insertPoint_121 : decode cX10_insertPoint 121 = .ok (.putfield 278, 3) := by decide +kernel
theorem dX10_insertPoint_124 : decode cX10_insertPoint 124 = .ok (.aload_n 0, 1) := by decide +kernel
theorem dX10_insertPoint_125 : decode cX10_insertPoint 125 = .ok (.getfield 84, 3) := by decide +kernel
theorem dX10_insertPoint_128 : decode cX10_insertPoint 128 = .ok (.iload_n 1, 1) := by decide +kernel
theorem dX10_insertPoint_129 : decode cX10_insertPoint 129 = .ok (.lload_n 2, 1) := by decide +kernel
theorem dX10_insertPoint_130 : decode cX10_insertPoint 130 = .ok (.lastore, 1) := by decide +kernel
theorem dX10_insertPoint_131 : decode cX10_insertPoint 131 = .ok (.aload_n 0, 1) := by decide +kernel
theorem dX10_insertPoint_132 : decode cX10_insertPoint 132 = .ok (.getfield 87, 3) := by decide +kernel
theorem dX10_insertPoint_135 : decode cX10_insertPoint 135 = .ok (.iload_n 1, 1) := by decide +kernel
theorem dX10_insertPoint_136 : decode cX10_insertPoint 136 = .ok (.lload 4, 2) := by decide +kernel
theorem dX10_insertPoint_138 : decode cX10_insertPoint 138 = .ok (.lastore, 1) := by decide +kernel
theorem dX10_insertPoint_139 : decode cX10_insertPoint 139 = .ok (.aload_n 0, 1) := by decide +kernel
theorem dX10_insertPoint_140 : decode cX10_insertPoint 140 = .ok (.getfield 90, 3) := by decide +kernel
theorem dX10_insertPoint_143 : decode cX10_insertPoint 143 = .ok (.iload_n 1, 1) := by decide +kernel
theorem dX10_insertPoint_144 : decode cX10_insertPoint 144 = .ok (.aload_n 0, 1) := by decide +kernel
theorem dX10_insertPoint_145 : decode cX10_insertPoint 145 = .ok (.getfield 272, 3) := by decide +kernel
theorem dX10_insertPoint_148 : decode cX10_insertPoint 148 = .ok (.lastore, 1) := by decide +kernel
theorem dX10_insertPoint_149 : decode cX10_insertPoint 149 = .ok (.aload_n 0, 1) := by decide +kernel
theorem dX10_insertPoint_150 : decode cX10_insertPoint 150 = .ok (.getfield 93, 3) := by decide +kernel
theorem dX10_insertPoint_153 : decode cX10_insertPoint 153 = .ok (.iload_n 1, 1) := by decide +kernel
theorem dX10_insertPoint_154 : decode cX10_insertPoint 154 = .ok (.aload_n 0, 1) := by decide +kernel
theorem dX10_insertPoint_155 : decode cX10_insertPoint 155 = .ok (.getfield 275, 3) := by decide +kernel
theorem dX10_insertPoint_158 : decode cX10_insertPoint 158 = .ok (.lastore, 1) := by decide +kernel
theorem dX10_insertPoint_159 : decode cX10_insertPoint 159 = .ok (.aload_n 0, 1) := by decide +kernel
theorem dX10_insertPoint_160 : decode cX10_insertPoint 160 = .ok (.getfield 96, 3) := by decide +kernel
theorem dX10_insertPoint_163 : decode cX10_insertPoint 163 = .ok (.iload_n 1, 1) := by decide +kernel
theorem dX10_insertPoint_164 : decode cX10_insertPoint 164 = .ok (.iconst 0, 1) := by decide +kernel
theorem dX10_insertPoint_165 : decode cX10_insertPoint 165 = .ok (.bastore, 1) := by decide +kernel
theorem dX10_insertPoint_166 : decode cX10_insertPoint 166 = .ok (.return_, 1) := by decide +kernel
theorem dX10_know_0 : decode cX10_know 0 = .ok (.aload_n 0, 1) := by decide +kernel
theorem dX10_know_1 : decode cX10_know 1 = .ok (.getfield 96, 3) := by decide +kernel
theorem dX10_know_4 : decode cX10_know 4 = .ok (.iload_n 1, 1) := by decide +kernel
theorem dX10_know_5 : decode cX10_know 5 = .ok (.iconst 1, 1) := by decide +kernel
theorem dX10_know_6 : decode cX10_know 6 = .ok (.bastore, 1) := by decide +kernel
theorem dX10_know_7 : decode cX10_know 7 = .ok (.aload_n 0, 1) := by decide +kernel
theorem dX10_know_8 : decode cX10_know 8 = .ok (.getfield 99, 3) := by decide +kernel
theorem dX10_know_11 : decode cX10_know 11 = .ok (.iload_n 1, 1) := by decide +kernel
theorem dX10_know_12 : decode cX10_know 12 = .ok (.lload_n 2, 1) := by decide +kernel
theorem dX10_know_13 : decode cX10_know 13 = .ok (.lastore, 1) := by decide +kernel
theorem dX10_know_14 : decode cX10_know 14 = .ok (.return_, 1) := by decide +kernel
theorem dX10_split_0 : decode cX10_split 0 = .ok (.aload_n 0, 1) := by decide +kernel
theorem dX10_split_1 : decode cX10_split 1 = .ok (.getfield 93, 3) := by decide +kernel
theorem dX10_split_4 : decode cX10_split 4 = .ok (.iload_n 1, 1) := by decide +kernel
theorem dX10_split_5 : decode cX10_split 5 = .ok (.laload, 1) := by decide +kernel
theorem dX10_split_6 : decode cX10_split 6 = .ok (.aload_n 0, 1) := by decide +kernel
theorem dX10_split_7 : decode cX10_split 7 = .ok (.getfield 93, 3) := by decide +kernel
theorem dX10_split_10 : decode cX10_split 10 = .ok (.iload_n 1, 1) := by decide +kernel
theorem dX10_split_11 : decode cX10_split 11 = .ok (.iconst 1, 1) := by decide +kernel
theorem dX10_split_12 : decode cX10_split 12 = .ok (.iadd, 1) := by decide +kernel
theorem dX10_split_13 : decode cX10_split 13 = .ok (.laload, 1) := by decide +kernel
theorem dX10_split_14 : decode cX10_split 14 = .ok (.lcmp, 1) := by decide +kernel
theorem dX10_split_15 : decode cX10_split 15 = .ok (.ifCond .ne 15, 3) := by decide +kernel
theorem dX10_split_18 : decode cX10_split 18 = .ok (.aload_n 0, 1) := by decide +kernel
theorem dX10_split_19 : decode cX10_split 19 = .ok (.iload_n 1, 1) := by decide +kernel
theorem dX10_split_20 : decode cX10_split 20 = .ok (.aload_n 0, 1) := by decide +kernel
theorem dX10_split_21 : decode cX10_split 21 = .ok (.getfield 93, 3) := by decide +kernel
theorem dX10_split_24 : decode cX10_split 24 = .ok (.iload_n 1, 1) := by decide +kernel
theorem dX10_split_25 : decode cX10_split 25 = .ok (.laload, 1) := by decide +kernel
theorem dX10_split_26 : decode cX10_split 26 = .ok (.invokevirtual 281, 3) := by decide +kernel
theorem dX10_split_29 : decode cX10_split 29 = .ok (.return_, 1) := by decide +kernel
theorem dX10_split_30 : decode cX10_split 30 = .ok (.aload_n 0, 1) := by decide +kernel
theorem dX10_split_31 : decode cX10_split 31 = .ok (.getfield 90, 3) := by decide +kernel
theorem dX10_split_34 : decode cX10_split 34 = .ok (.iload_n 1, 1) := by decide +kernel
theorem dX10_split_35 : decode cX10_split 35 = .ok (.iconst 1, 1) := by decide +kernel
theorem dX10_split_36 : decode cX10_split 36 = .ok (.iadd, 1) := by decide +kernel
theorem dX10_split_37 : decode cX10_split 37 = .ok (.laload, 1) := by decide +kernel
theorem dX10_split_38 : decode cX10_split 38 = .ok (.aload_n 0, 1) := by decide +kernel
theorem dX10_split_39 : decode cX10_split 39 = .ok (.getfield 90, 3) := by decide +kernel
theorem dX10_split_42 : decode cX10_split 42 = .ok (.iload_n 1, 1) := by decide +kernel
theorem dX10_split_43 : decode cX10_split 43 = .ok (.laload, 1) := by decide +kernel
theorem dX10_split_44 : decode cX10_split 44 = .ok (.lsub, 1) := by decide +kernel
theorem dX10_split_45 : decode cX10_split 45 = .ok (.lstore_n 2, 1) := by decide +kernel
theorem dX10_split_46 : decode cX10_split 46 = .ok (.aload_n 0, 1) := by decide +kernel
theorem dX10_split_47 : decode cX10_split 47 = .ok (.getfield 93, 3) := by decide +kernel
theorem dX10_split_50 : decode cX10_split 50 = .ok (.iload_n 1, 1) := by decide +kernel
theorem dX10_split_51 : decode cX10_split 51 = .ok (.laload, 1) := by decide +kernel
theorem dX10_split_52 : decode cX10_split 52 = .ok (.aload_n 0, 1) := by decide +kernel
theorem dX10_split_53 : decode cX10_split 53 = .ok (.getfield 93, 3) := by decide +kernel
theorem dX10_split_56 : decode cX10_split 56 = .ok (.iload_n 1, 1) := by decide +kernel
theorem dX10_split_57 : decode cX10_split 57 = .ok (.iconst 1, 1) := by decide +kernel
theorem dX10_split_58 : decode cX10_split 58 = .ok (.iadd, 1) := by decide +kernel
theorem dX10_split_59 : decode cX10_split 59 = .ok (.laload, 1) := by decide +kernel
theorem dX10_split_60 : decode cX10_split 60 = .ok (.lsub, 1) := by decide +kernel
theorem dX10_split_61 : decode cX10_split 61 = .ok (.lstore 4, 2) := by decide +kernel
theorem dX10_split_63 : decode cX10_split 63 = .ok (.lload_n 2, 1) := by decide +kernel
theorem dX10_split_64 : decode cX10_split 64 = .ok (.lload 4, 2) := by decide +kernel
theorem dX10_split_66 : decode cX10_split 66 = .ok (.iconst 0, 1) := by decide +kernel
theorem dX10_split_67 : decode cX10_split 67 = .ok (.invokestatic 235, 3) := by decide +kernel
theorem dX10_split_70 : decode cX10_split 70 = .ok (.lstore 6, 2) := by decide +kernel
theorem dX10_split_72 : decode cX10_split 72 = .ok (.lload_n 2, 1) := by decide +kernel
theorem dX10_split_73 : decode cX10_split 73 = .ok (.lload 4, 2) := by decide +kernel
theorem dX10_split_75 : decode cX10_split 75 = .ok (.iconst 1, 1) := by decide +kernel
theorem dX10_split_76 : decode cX10_split 76 = .ok (.invokestatic 235, 3) := by decide +kernel
theorem dX10_split_79 : decode cX10_split 79 = .ok (.lstore 8, 2) := by decide +kernel
theorem dX10_split_81 : decode cX10_split 81 = .ok (.lload 6, 2) := by decide +kernel
theorem dX10_split_83 : decode cX10_split 83 = .ok (.aload_n 0, 1) := by decide +kernel
theorem dX10_split_84 : decode cX10_split 84 = .ok (.getfield 87, 3) := by decide +kernel
theorem dX10_split_87 : decode cX10_split 87 = .ok (.iload_n 1, 1) := by decide +kernel
theorem dX10_split_88 : decode cX10_split 88 = .ok (.laload, 1) := by decide +kernel
theorem dX10_split_89 : decode cX10_split 89 = .ok (.lmul, 1) := by decide +kernel
theorem dX10_split_90 : decode cX10_split 90 = .ok (.aload_n 0, 1) := by decide +kernel
theorem dX10_split_91 : decode cX10_split 91 = .ok (.getfield 84, 3) := by decide +kernel
theorem dX10_split_94 : decode cX10_split 94 = .ok (.iload_n 1, 1) := by decide +kernel
theorem dX10_split_95 : decode cX10_split 95 = .ok (.laload, 1) := by decide +kernel
theorem dX10_split_96 : decode cX10_split 96 = .ok (.lload 8, 2) := by decide +kernel
theorem dX10_split_98 : decode cX10_split 98 = .ok (.lmul, 1) := by decide +kernel
theorem dX10_split_99 : decode cX10_split 99 = .ok (.lcmp, 1) := by decide +kernel
theorem dX10_split_100 : decode cX10_split 100 = .ok (.ifCond .ne 7, 3) := by decide +kernel
theorem dX10_split_103 : decode cX10_split 103 = .ok (.iconst 1, 1) := by decide +kernel
theorem dX10_split_104 : decode cX10_split 104 = .ok (.goto 4, 3) := by decide +kernel
theorem dX10_split_107 : decode cX10_split 107 = .ok (.iconst 0, 1) := by decide +kernel
theorem dX10_split_108 : decode cX10_split 108 = .ok (.istore 10, 2) := by decide +kernel
theorem dX10_split_110 : decode cX10_split 110 = .ok (.lload 6, 2) := by decide +kernel
theorem dX10_split_112 : decode cX10_split 112 = .ok (.aload_n 0, 1) := by decide +kernel
theorem dX10_split_113 : decode cX10_split 113 = .ok (.getfield 87, 3) := by decide +kernel
theorem dX10_split_116 : decode cX10_split 116 = .ok (.iload_n 1, 1) := by decide +kernel
theorem dX10_split_117 : decode cX10_split 117 = .ok (.iconst 1, 1) := by decide +kernel
theorem dX10_split_118 : decode cX10_split 118 = .ok (.iadd, 1) := by decide +kernel
theorem dX10_split_119 : decode cX10_split 119 = .ok (.laload, 1) := by decide +kernel
theorem dX10_split_120 : decode cX10_split 120 = .ok (.lmul, 1) := by decide +kernel
theorem dX10_split_121 : decode cX10_split 121 = .ok (.aload_n 0, 1) := by decide +kernel
theorem dX10_split_122 : decode cX10_split 122 = .ok (.getfield 84, 3) := by decide +kernel
theorem dX10_split_125 : decode cX10_split 125 = .ok (.iload_n 1, 1) := by decide +kernel
theorem dX10_split_126 : decode cX10_split 126 = .ok (.iconst 1, 1) := by decide +kernel
theorem dX10_split_127 : decode cX10_split 127 = .ok (.iadd, 1) := by decide +kernel
theorem dX10_split_128 : decode cX10_split 128 = .ok (.laload, 1) := by decide +kernel
theorem dX10_split_129 : decode cX10_split 129 = .ok (.lload 8, 2) := by decide +kernel
theorem dX10_split_131 : decode cX10_split 131 = .ok (.lmul, 1) := by decide +kernel
theorem dX10_split_132 : decode cX10_split 132 = .ok (.lcmp, 1) := by decide +kernel
theorem dX10_split_133 : decode cX10_split 133 = .ok (.ifCond .ne 7, 3) := by decide +kernel
theorem dX10_split_136 : decode cX10_split 136 = .ok (.iconst 1, 1) := by decide +kernel
theorem dX10_split_137 : decode cX10_split 137 = .ok (.goto 4, 3) := by decide +kernel
theorem dX10_split_140 : decode cX10_split 140 = .ok (.iconst 0, 1) := by decide +kernel
theorem dX10_split_141 : decode cX10_split 141 = .ok (.istore 11, 2) := by decide +kernel
theorem dX10_split_143 : decode cX10_split 143 = .ok (.iload 10, 2) := by decide +kernel
theorem dX10_split_145 : decode cX10_split 145 = .ok (.ifCond .ne 8, 3) := by decide +kernel
theorem dX10_split_148 : decode cX10_split 148 = .ok (.iload 11, 2) := by decide +kernel
theorem dX10_split_150 : decode cX10_split 150 = .ok (.ifCond .eq 31, 3) := by decide +kernel
theorem dX10_split_153 : decode cX10_split 153 = .ok (.aload_n 0, 1) := by decide +kernel
theorem dX10_split_154 : decode cX10_split 154 = .ok (.iload_n 1, 1) := by decide +kernel
theorem dX10_split_155 : decode cX10_split 155 = .ok (.iload 10, 2) := by decide +kernel
theorem dX10_split_157 : decode cX10_split 157 = .ok (.ifCond .eq 14, 3) := by decide +kernel
theorem dX10_split_160 : decode cX10_split 160 = .ok (.aload_n 0, 1) := by decide +kernel
theorem dX10_split_161 : decode cX10_split 161 = .ok (.getfield 93, 3) := by decide +kernel
theorem dX10_split_164 : decode cX10_split 164 = .ok (.iload_n 1, 1) := by decide +kernel
theorem dX10_split_165 : decode cX10_split 165 = .ok (.iconst 1, 1) := by decide +kernel
theorem dX10_split_166 : decode cX10_split 166 = .ok (.iadd, 1) := by decide +kernel
theorem dX10_split_167 : decode cX10_split 167 = .ok (.laload, 1) := by decide +kernel
theorem dX10_split_168 : decode cX10_split 168 = .ok (.goto 9, 3) := by decide +kernel
theorem dX10_split_171 : decode cX10_split 171 = .ok (.aload_n 0, 1) := by decide +kernel
theorem dX10_split_172 : decode cX10_split 172 = .ok (.getfield 93, 3) := by decide +kernel
theorem dX10_split_175 : decode cX10_split 175 = .ok (.iload_n 1, 1) := by decide +kernel
theorem dX10_split_176 : decode cX10_split 176 = .ok (.laload, 1) := by decide +kernel
theorem dX10_split_177 : decode cX10_split 177 = .ok (.invokevirtual 281, 3) := by decide +kernel
theorem dX10_split_180 : decode cX10_split 180 = .ok (.return_, 1) := by decide +kernel
theorem dX10_split_181 : decode cX10_split 181 = .ok (.aload_n 0, 1) := by decide +kernel
theorem dX10_split_182 : decode cX10_split 182 = .ok (.lload 6, 2) := by decide +kernel
theorem dX10_split_184 : decode cX10_split 184 = .ok (.lload 8, 2) := by decide +kernel
theorem dX10_split_186 : decode cX10_split 186 = .ok (.invokevirtual 214, 3) := by decide +kernel
theorem dX10_split_189 : decode cX10_split 189 = .ok (.pop, 1) := by decide +kernel
theorem dX10_split_190 : decode cX10_split 190 = .ok (.aload_n 0, 1) := by decide +kernel
theorem dX10_split_191 : decode cX10_split 191 = .ok (.invokevirtual 232, 3) := by decide +kernel
theorem dX10_split_194 : decode cX10_split 194 = .ok (.aload_n 0, 1) := by decide +kernel
theorem dX10_split_195 : decode cX10_split 195 = .ok (.getfield 90, 3) := by decide +kernel
theorem dX10_split_198 : decode cX10_split 198 = .ok (.iload_n 1, 1) := by decide +kernel
theorem dX10_split_199 : decode cX10_split 199 = .ok (.laload, 1) := by decide +kernel
theorem dX10_split_200 : decode cX10_split 200 = .ok (.lload 8, 2) := by decide +kernel
theorem dX10_split_202 : decode cX10_split 202 = .ok (.lmul, 1) := by decide +kernel
theorem dX10_split_203 : decode cX10_split 203 = .ok (.aload_n 0, 1) := by decide +kernel
theorem dX10_split_204 : decode cX10_split 204 = .ok (.getfield 93, 3) := by decide +kernel
theorem dX10_split_207 : decode cX10_split 207 = .ok (.iload_n 1, 1) := by decide +kernel
theorem dX10_split_208 : decode cX10_split 208 = .ok (.laload, 1) := by decide +kernel
theorem dX10_split_209 : decode cX10_split 209 = .ok (.lload 6, 2) := by decide +kernel
theorem dX10_split_211 : decode cX10_split 211 = .ok (.lmul, 1) := by decide +kernel
theorem dX10_split_212 : decode cX10_split 212 = .ok (.ladd, 1) := by decide +kernel
theorem dX10_split_213 : decode cX10_split 213 = .ok (.lcmp, 1) := by decide +kernel
theorem dX10_split_214 : decode cX10_split 214 = .ok (.ifCond .ne 7, 3) := by decide +kernel
theorem dX10_split_217 : decode cX10_split 217 = .ok (.iconst 1, 1) := by decide +kernel
theorem dX10_split_218 : decode cX10_split 218 = .ok (.goto 4, 3) := by decide +kernel
theorem dX10_split_221 : decode cX10_split 221 = .ok (.iconst 0, 1) := by decide +kernel
theorem dX10_split_222 : decode cX10_split 222 = .ok (.istore 12, 2) := by decide +kernel
theorem dX10_split_224 : decode cX10_split 224 = .ok (.aload_n 0, 1) := by decide +kernel
theorem dX10_split_225 : decode cX10_split 225 = .ok (.getfield 93, 3) := by decide +kernel
theorem dX10_split_228 : decode cX10_split 228 = .ok (.iload_n 1, 1) := by decide +kernel
theorem dX10_split_229 : decode cX10_split 229 = .ok (.laload, 1) := by decide +kernel
theorem dX10_split_230 : decode cX10_split 230 = .ok (.lstore 13, 2) := by decide +kernel
theorem dX10_split_232 : decode cX10_split 232 = .ok (.aload_n 0, 1) := by decide +kernel
theorem dX10_split_233 : decode cX10_split 233 = .ok (.getfield 93, 3) := by decide +kernel
theorem dX10_split_236 : decode cX10_split 236 = .ok (.iload_n 1, 1) := by decide +kernel
theorem dX10_split_237 : decode cX10_split 237 = .ok (.iconst 1, 1) := by decide +kernel
theorem dX10_split_238 : decode cX10_split 238 = .ok (.iadd, 1) := by decide +kernel
theorem dX10_split_239 : decode cX10_split 239 = .ok (.laload, 1) := by decide +kernel
theorem dX10_split_240 : decode cX10_split 240 = .ok (.lstore 15, 2) := by decide +kernel
theorem dX10_split_242 : decode cX10_split 242 = .ok (.aload_n 0, 1) := by decide +kernel
theorem dX10_split_243 : decode cX10_split 243 = .ok (.invokevirtual 285, 3) := by decide +kernel
theorem dX10_split_246 : decode cX10_split 246 = .ok (.aload_n 0, 1) := by decide +kernel
theorem dX10_split_247 : decode cX10_split 247 = .ok (.iload_n 1, 1) := by decide +kernel
theorem dX10_split_248 : decode cX10_split 248 = .ok (.iconst 1, 1) := by decide +kernel
theorem dX10_split_249 : decode cX10_split 249 = .ok (.iadd, 1) := by decide +kernel
theorem dX10_split_250 : decode cX10_split 250 = .ok (.lload 6, 2) := by decide +kernel
theorem dX10_split_252 : decode cX10_split 252 = .ok (.lload 8, 2) := by decide +kernel
theorem dX10_split_254 : decode cX10_split 254 = .ok (.invokevirtual 288, 3) := by decide +kernel
theorem dX10_split_257 : decode cX10_split 257 = .ok (.iload 12, 2) := by decide +kernel
theorem dX10_split_259 : decode cX10_split 259 = .ok (.ifCond .eq 19, 3) := by decide +kernel
theorem dX10_split_262 : decode cX10_split 262 = .ok (.aload_n 0, 1) := by decide +kernel
theorem dX10_split_263 : decode cX10_split 263 = .ok (.iload_n 1, 1) := by decide +kernel
theorem dX10_split_264 : decode cX10_split 264 = .ok (.lload 13, 2) := by decide +kernel
theorem dX10_split_266 : decode cX10_split 266 = .ok (.invokevirtual 281, 3) := by decide +kernel
theorem dX10_split_269 : decode cX10_split 269 = .ok (.aload_n 0, 1) := by decide +kernel
theorem dX10_split_270 : decode cX10_split 270 = .ok (.iload_n 1, 1) := by decide +kernel
theorem dX10_split_271 : decode cX10_split 271 = .ok (.iconst 1, 1) := by decide +kernel
theorem dX10_split_272 : decode cX10_split 272 = .ok (.iadd, 1) := by decide +kernel
theorem dX10_split_273 : decode cX10_split 273 = .ok (.lload 15, 2) := by decide +kernel
theorem dX10_split_275 : decode cX10_split 275 = .ok (.invokevirtual 281, 3) := by decide +kernel
theorem dX10_split_278 : decode cX10_split 278 = .ok (.return_, 1) := by decide +kernel
theorem dX10_findFunction_0 : decode cX10_findFunction 0 = .ok (.aload_n 0, 1) := by decide +kernel
theorem dX10_findFunction_1 : decode cX10_findFunction 1 = .ok (.iload_n 1, 1) := by decide +kernel
theorem dX10_findFunction_2 : decode cX10_findFunction 2 = .ok (.i2l, 1) := by decide +kernel
theorem dX10_findFunction_3 : decode cX10_findFunction 3 = .ok (.lconst 1, 1) := by decide +kernel
theorem dX10_findFunction_4 : decode cX10_findFunction 4 = .ok (.invokevirtual 193, 3) := by decide +kernel
theorem dX10_findFunction_7 : decode cX10_findFunction 7 = .ok (.ifCond .eq 13, 3) := by decide +kernel
theorem dX10_findFunction_10 : decode cX10_findFunction 10 = .ok (.aload_n 0, 1) := by decide +kernel
theorem dX10_findFunction_11 : decode cX10_findFunction 11 = .ok (.iload_n 2, 1) := by decide +kernel
theorem dX10_findFunction_12 : decode cX10_findFunction 12 = .ok (.i2l, 1) := by decide +kernel
theorem dX10_findFunction_13 : decode cX10_findFunction 13 = .ok (.lconst 1, 1) := by decide +kernel
theorem dX10_findFunction_14 : decode cX10_findFunction 14 = .ok (.invokevirtual 193, 3) := by decide +kernel
theorem dX10_findFunction_17 : decode cX10_findFunction 17 = .ok (.ifCond .ne 7, 3) := by decide +kernel
theorem dX10_findFunction_20 : decode cX10_findFunction 20 = .ok (.sipush (-10003), 3) := by decide +kernel
theorem dX10_findFunction_23 : decode cX10_findFunction 23 = .ok (.ireturn, 1) := by decide +kernel
theorem dX10_findFunction_24 : decode cX10_findFunction 24 = .ok (.aload_n 0, 1) := by decide +kernel
theorem dX10_findFunction_25 : decode cX10_findFunction 25 = .ok (.iconst 0, 1) := by decide +kernel
theorem dX10_findFunction_26 : decode cX10_findFunction 26 = .ok (.putfield 278, 3) := by decide +kernel
theorem dX10_findFunction_29 : decode cX10_findFunction 29 = .ok (.iconst 0, 1) := by decide +kernel
theorem dX10_findFunction_30 : decode cX10_findFunction 30 = .ok (.istore_n 3, 1) := by decide +kernel
theorem dX10_findFunction_31 : decode cX10_findFunction 31 = .ok (.iload_n 3, 1) := by decide +kernel
theorem dX10_findFunction_32 : decode cX10_findFunction 32 = .ok (.iconst 2, 1) := by decide +kernel
theorem dX10_findFunction_33 : decode cX10_findFunction 33 = .ok (.if_icmp .ge 53, 3) := by decide +kernel
theorem dX10_findFunction_36 : decode cX10_findFunction 36 = .ok (.aload_n 0, 1) := by decide +kernel
theorem dX10_findFunction_37 : decode cX10_findFunction 37 = .ok (.iload_n 3, 1) := by decide +kernel
theorem dX10_findFunction_38 : decode cX10_findFunction 38 = .ok (.ifCond .ne 8, 3) := by decide +kernel
theorem dX10_findFunction_41 : decode cX10_findFunction 41 = .ok (.iload_n 1, 1) := by decide +kernel
theorem dX10_findFunction_42 : decode cX10_findFunction 42 = .ok (.i2l, 1) := by decide +kernel
theorem dX10_findFunction_43 : decode cX10_findFunction 43 = .ok (.goto 5, 3) := by decide +kernel
theorem dX10_findFunction_46 : decode cX10_findFunction 46 = .ok (.iload_n 2, 1) := by decide +kernel
theorem dX10_findFunction_47 : decode cX10_findFunction 47 = .ok (.i2l, 1) := by decide +kernel
theorem dX10_findFunction_48 : decode cX10_findFunction 48 = .ok (.lconst 1, 1) := by decide +kernel
theorem dX10_findFunction_49 : decode cX10_findFunction 49 = .ok (.invokevirtual 214, 3) := by decide +kernel
theorem dX10_findFunction_52 : decode cX10_findFunction 52 = .ok (.ifCond .ge 7, 3) := by decide +kernel
theorem dX10_findFunction_55 : decode cX10_findFunction 55 = .ok (.sipush (-10004), 3) := by decide +kernel
theorem dX10_findFunction_58 : decode cX10_findFunction 58 = .ok (.ireturn, 1) := by decide +kernel
theorem dX10_findFunction_59 : decode cX10_findFunction 59 = .ok (.aload_n 0, 1) := by decide +kernel
theorem dX10_findFunction_60 : decode cX10_findFunction 60 = .ok (.invokevirtual 285, 3) := by decide +kernel
theorem dX10_findFunction_63 : decode cX10_findFunction 63 = .ok (.aload_n 0, 1) := by decide +kernel
theorem dX10_findFunction_64 : decode cX10_findFunction 64 = .ok (.iload_n 3, 1) := by decide +kernel
theorem dX10_findFunction_65 : decode cX10_findFunction 65 = .ok (.iload_n 3, 1) := by decide +kernel
theorem dX10_findFunction_66 : decode cX10_findFunction 66 = .ok (.ifCond .ne 8, 3) := by decide +kernel
theorem dX10_findFunction_69 : decode cX10_findFunction 69 = .ok (.iload_n 1, 1) := by decide +kernel
theorem dX10_findFunction_70 : decode cX10_findFunction 70 = .ok (.i2l, 1) := by decide +kernel
theorem dX10_findFunction_71 : decode cX10_findFunction 71 = .ok (.goto 5, 3) := by decide +kernel
theorem dX10_findFunction_74 : decode cX10_findFunction 74 = .ok (.iload_n 2, 1) := by decide +kernel
theorem dX10_findFunction_75 : decode cX10_findFunction 75 = .ok (.i2l, 1) := by decide +kernel
theorem dX10_findFunction_76 : decode cX10_findFunction 76 = .ok (.lconst 1, 1) := by decide +kernel
theorem dX10_findFunction_77 : decode cX10_findFunction 77 = .ok (.invokevirtual 288, 3) := by decide +kernel
theorem dX10_findFunction_80 : decode cX10_findFunction 80 = .ok (.iinc 3 1, 3) := by decide +kernel
theorem dX10_findFunction_83 : decode cX10_findFunction 83 = .ok (.goto (-52), 3) := by decide +kernel
theorem dX10_findFunction_86 : decode cX10_findFunction 86 = .ok (.iconst 0, 1) := by decide +kernel
theorem dX10_findFunction_87 : decode cX10_findFunction 87 = .ok (.istore_n 3, 1) := by decide +kernel
theorem dX10_findFunction_88 : decode cX10_findFunction 88 = .ok (.iload_n 3, 1) := by decide +kernel
theorem dX10_findFunction_89 : decode cX10_findFunction 89 = .ok (.aload_n 0, 1) := by decide +kernel
theorem dX10_findFunction_90 : decode cX10_findFunction 90 = .ok (.getfield 278, 3) := by decide +kernel
theorem dX10_findFunction_93 : decode cX10_findFunction 93 = .ok (.iconst 1, 1) := by decide +kernel
theorem dX10_findFunction_94 : decode cX10_findFunction 94 = .ok (.isub, 1) := by decide +kernel
theorem dX10_findFunction_95 : decode cX10_findFunction 95 = .ok (.if_icmp .ge 26, 3) := by decide +kernel
theorem dX10_findFunction_98 : decode cX10_findFunction 98 = .ok (.aload_n 0, 1) := by decide +kernel
theorem dX10_findFunction_99 : decode cX10_findFunction 99 = .ok (.getfield 96, 3) := by decide +kernel
theorem dX10_findFunction_102 : decode cX10_findFunction 102 = .ok (.iload_n 3, 1) := by decide +kernel
theorem dX10_findFunction_103 : decode cX10_findFunction 103 = .ok (.baload, 1) := by decide +kernel
theorem dX10_findFunction_104 : decode cX10_findFunction 104 = .ok (.ifCond .eq 9, 3) := by decide +kernel
theorem dX10_findFunction_107 : decode cX10_findFunction 107 = .ok (.iinc 3 1, 3) := by decide +kernel
theorem dX10_findFunction_110 : decode cX10_findFunction 110 = .ok (.goto (-22), 3) := by decide +kernel
theorem dX10_findFunction_113 : decode cX10_findFunction 113 = .ok (.aload_n 0, 1) := by decide +kernel
theorem dX10_findFunction_114 : decode cX10_findFunction 114 = .ok (.iload_n 3, 1) := by decide +kernel
theorem dX10_findFunction_115 : decode cX10_findFunction 115 = .ok (.invokevirtual 292, 3) := by decide +kernel
theorem dX10_findFunction_118 : decode cX10_findFunction 118 = .ok (.goto (-30), 3) := by decide +kernel
theorem dX10_findFunction_121 : decode cX10_findFunction 121 = .ok (.iconst 0, 1) := by decide +kernel
theorem dX10_findFunction_122 : decode cX10_findFunction 122 = .ok (.ireturn, 1) := by decide +kernel
theorem dX10_isBend_0 : decode cX10_isBend 0 = .ok (.iload_n 1, 1) := by decide +kernel
theorem dX10_isBend_1 : decode cX10_isBend 1 = .ok (.ifCond .le 35, 3) := by decide +kernel
theorem dX10_isBend_4 : decode cX10_isBend 4 = .ok (.iload_n 1, 1) := by decide +kernel
theorem dX10_isBend_5 : decode cX10_isBend 5 = .ok (.aload_n 0, 1) := by decide +kernel
theorem dX10_isBend_6 : decode cX10_isBend 6 = .ok (.getfield 278, 3) := by decide +kernel
theorem dX10_isBend_9 : decode cX10_isBend 9 = .ok (.iconst 1, 1) := by decide +kernel
theorem dX10_isBend_10 : decode cX10_isBend 10 = .ok (.isub, 1) := by decide +kernel
theorem dX10_isBend_11 : decode cX10_isBend 11 = .ok (.if_icmp .ge 25, 3) := by decide +kernel
theorem dX10_isBend_14 : decode cX10_isBend 14 = .ok (.aload_n 0, 1) := by decide +kernel
theorem dX10_isBend_15 : decode cX10_isBend 15 = .ok (.getfield 99, 3) := by decide +kernel
theorem dX10_isBend_18 : decode cX10_isBend 18 = .ok (.iload_n 1, 1) := by decide +kernel
theorem dX10_isBend_19 : decode cX10_isBend 19 = .ok (.laload, 1) := by decide +kernel
theorem dX10_isBend_20 : decode cX10_isBend 20 = .ok (.aload_n 0, 1) := by decide +kernel
theorem dX10_isBend_21 : decode cX10_isBend 21 = .ok (.getfield 99, 3) := by decide +kernel
theorem dX10_isBend_24 : decode cX10_isBend 24 = .ok (.iload_n 1, 1) := by decide +kernel
theorem dX10_isBend_25 : decode cX10_isBend 25 = .ok (.iconst 1, 1) := by decide +kernel
theorem dX10_isBend_26 : decode cX10_isBend 26 = .ok (.isub, 1) := by decide +kernel
theorem dX10_isBend_27 : decode cX10_isBend 27 = .ok (.laload, 1) := by decide +kernel
theorem dX10_isBend_28 : decode cX10_isBend 28 = .ok (.lcmp, 1) := by decide +kernel
theorem dX10_isBend_29 : decode cX10_isBend 29 = .ok (.ifCond .eq 7, 3) := by decide +kernel
theorem dX10_isBend_32 : decode cX10_isBend 32 = .ok (.iconst 1, 1) := by decide +kernel
theorem dX10_isBend_33 : decode cX10_isBend 33 = .ok (.goto 4, 3) := by decide +kernel
theorem dX10_isBend_36 : decode cX10_isBend 36 = .ok (.iconst 0, 1) := by decide +kernel
theorem dX10_isBend_37 : decode cX10_isBend 37 = .ok (.ireturn, 1) := by decide +kernel
theorem dX10_isSpan_0 : decode cX10_isSpan 0 = .ok (.iload_n 0, 1) := by decide +kernel
theorem dX10_isSpan_1 : decode cX10_isSpan 1 = .ok (.sipush (-1000), 3) := by decide +kernel
theorem dX10_isSpan_4 : decode cX10_isSpan 4 = .ok (.sipush 1000, 3) := by decide +kernel
theorem dX10_isSpan_7 : decode cX10_isSpan 7 = .ok (.invokestatic 132, 3) := by decide +kernel
theorem dX10_isSpan_10 : decode cX10_isSpan 10 = .ok (.ifCond .eq 20, 3) := by decide +kernel
theorem dX10_isSpan_13 : decode cX10_isSpan 13 = .ok (.iload_n 1, 1) := by decide +kernel
theorem dX10_isSpan_14 : decode cX10_isSpan 14 = .ok (.iload_n 0, 1) := by decide +kernel
theorem dX10_isSpan_15 : decode cX10_isSpan 15 = .ok (.iconst 1, 1) := by decide +kernel
theorem dX10_isSpan_16 : decode cX10_isSpan 16 = .ok (.iadd, 1) := by decide +kernel
theorem dX10_isSpan_17 : decode cX10_isSpan 17 = .ok (.sipush 1000, 3) := by decide +kernel
theorem dX10_isSpan_20 : decode cX10_isSpan 20 = .ok (.invokestatic 132, 3) := by decide +kernel
theorem dX10_isSpan_23 : decode cX10_isSpan 23 = .ok (.ifCond .eq 7, 3) := by decide +kernel
theorem dX10_isSpan_26 : decode cX10_isSpan 26 = .ok (.iconst 1, 1) := by decide +kernel
theorem dX10_isSpan_27 : decode cX10_isSpan 27 = .ok (.goto 4, 3) := by decide +kernel
theorem dX10_isSpan_30 : decode cX10_isSpan 30 = .ok (.iconst 0, 1) := by decide +kernel
theorem dX10_isSpan_31 : decode cX10_isSpan 31 = .ok (.ireturn, 1) := by decide +kernel
theorem dX10_value_0 : decode cX10_value 0 = .ok (.iload_n 1, 1) := by decide +kernel
theorem dX10_value_1 : decode cX10_value 1 = .ok (.iload_n 2, 1) := by decide +kernel
theorem dX10_value_2 : decode cX10_value 2 = .ok (.invokestatic 218, 3) := by decide +kernel
theorem dX10_value_5 : decode cX10_value 5 = .ok (.ifCond .eq 14, 3) := by decide +kernel
theorem dX10_value_8 : decode cX10_value 8 = .ok (.aload_n 0, 1) := by decide +kernel
theorem dX10_value_9 : decode cX10_value 9 = .ok (.iload_n 1, 1) := by decide +kernel
theorem dX10_value_10 : decode cX10_value 10 = .ok (.i2l, 1) := by decide +kernel
theorem dX10_value_11 : decode cX10_value 11 = .ok (.iload_n 2, 1) := by decide +kernel
theorem dX10_value_12 : decode cX10_value 12 = .ok (.i2l, 1) := by decide +kernel
theorem dX10_value_13 : decode cX10_value 13 = .ok (.invokevirtual 214, 3) := by decide +kernel
theorem dX10_value_16 : decode cX10_value 16 = .ok (.ifCond .ge 7, 3) := by decide +kernel
theorem dX10_value_19 : decode cX10_value 19 = .ok (.invokestatic 228, 3) := by decide +kernel
theorem dX10_value_22 : decode cX10_value 22 = .ok (.lreturn, 1) := by decide +kernel
theorem dX10_value_23 : decode cX10_value 23 = .ok (.aload_n 0, 1) := by decide +kernel
theorem dX10_value_24 : decode cX10_value 24 = .ok (.invokevirtual 232, 3) := by decide +kernel
theorem dX10_value_27 : decode cX10_value 27 = .ok (.aload_n 0, 1) := by decide +kernel
theorem dX10_value_28 : decode cX10_value 28 = .ok (.getfield 156, 3) := by decide +kernel
theorem dX10_value_31 : decode cX10_value 31 = .ok (.iload_n 3, 1) := by decide +kernel
theorem dX10_value_32 : decode cX10_value 32 = .ok (.invokestatic 235, 3) := by decide +kernel
theorem dX10_value_35 : decode cX10_value 35 = .ok (.lreturn, 1) := by decide +kernel
theorem dX10_problem_0 : decode cX10_problem 0 = .ok (.iload_n 1, 1) := by decide +kernel
theorem dX10_problem_1 : decode cX10_problem 1 = .ok (.iload_n 2, 1) := by decide +kernel
theorem dX10_problem_2 : decode cX10_problem 2 = .ok (.invokestatic 218, 3) := by decide +kernel
theorem dX10_problem_5 : decode cX10_problem 5 = .ok (.ifCond .ne 7, 3) := by decide +kernel
theorem dX10_problem_8 : decode cX10_problem 8 = .ok (.sipush (-10002), 3) := by decide +kernel
theorem dX10_problem_11 : decode cX10_problem 11 = .ok (.ireturn, 1) := by decide +kernel
theorem dX10_problem_12 : decode cX10_problem 12 = .ok (.aload_n 0, 1) := by decide +kernel
theorem dX10_problem_13 : decode cX10_problem 13 = .ok (.iload_n 1, 1) := by decide +kernel
theorem dX10_problem_14 : decode cX10_problem 14 = .ok (.i2l, 1) := by decide +kernel
theorem dX10_problem_15 : decode cX10_problem 15 = .ok (.iload_n 2, 1) := by decide +kernel
theorem dX10_problem_16 : decode cX10_problem 16 = .ok (.i2l, 1) := by decide +kernel
theorem dX10_problem_17 : decode cX10_problem 17 = .ok (.invokevirtual 214, 3) := by decide +kernel
theorem dX10_problem_20 : decode cX10_problem 20 = .ok (.istore_n 3, 1) := by decide +kernel
theorem dX10_problem_21 : decode cX10_problem 21 = .ok (.iload_n 3, 1) := by decide +kernel
theorem dX10_problem_22 : decode cX10_problem 22 = .ok (.ifCond .ge 7, 3) := by decide +kernel
theorem dX10_problem_25 : decode cX10_problem 25 = .ok (.iload_n 3, 1) := by decide +kernel
theorem dX10_problem_26 : decode cX10_problem 26 = .ok (.goto 6, 3) := by decide +kernel
theorem dX10_problem_29 : decode cX10_problem 29 = .ok (.sipush (-10007), 3) := by decide +kernel
theorem dX10_problem_32 : decode cX10_problem 32 = .ok (.ireturn, 1) := by decide +kernel
theorem dX10_breakpoints_0 : decode cX10_breakpoints 0 = .ok (.iload_n 1, 1) := by decide +kernel
theorem dX10_breakpoints_1 : decode cX10_breakpoints 1 = .ok (.iload_n 2, 1) := by decide +kernel
theorem dX10_breakpoints_2 : decode cX10_breakpoints 2 = .ok (.invokestatic 295, 3) := by decide +kernel
theorem dX10_breakpoints_5 : decode cX10_breakpoints 5 = .ok (.ifCond .ne 7, 3) := by decide +kernel
theorem dX10_breakpoints_8 : decode cX10_breakpoints 8 = .ok (.sipush (-10002), 3) := by decide +kernel
theorem dX10_breakpoints_11 : decode cX10_breakpoints 11 = .ok (.ireturn, 1) := by decide +kernel
theorem dX10_breakpoints_12 : decode cX10_breakpoints 12 = .ok (.aload_n 0, 1) := by decide +kernel
theorem dX10_breakpoints_13 : decode cX10_breakpoints 13 = .ok (.iload_n 1, 1) := by decide +kernel
theorem dX10_breakpoints_14 : decode cX10_breakpoints 14 = .ok (.iload_n 2, 1) := by decide +kernel
theorem dX10_breakpoints_15 : decode cX10_breakpoints 15 = .ok (.invokevirtual 298, 3) := by decide +kernel
theorem dX10_breakpoints_18 : decode cX10_breakpoints 18 = .ok (.istore_n 3, 1) := by decide +kernel
theorem dX10_breakpoints_19 : decode cX10_breakpoints 19 = .ok (.iload_n 3, 1) := by decide +kernel
theorem dX10_breakpoints_20 : decode cX10_breakpoints 20 = .ok (.ifCond .ge 5, 3) := by decide +kernel
theorem dX10_breakpoints_23 : decode cX10_breakpoints 23 = .ok (.iload_n 3, 1) := by decide +kernel
theorem dX10_breakpoints_24 : decode cX10_breakpoints 24 = .ok (.ireturn, 1) := by decide +kernel
theorem dX10_breakpoints_25 : decode cX10_breakpoints 25 = .ok (.iconst 0, 1) := by decide +kernel
theorem dX10_breakpoints_26 : decode cX10_breakpoints 26 = .ok (.istore 4, 2) := by decide +kernel
theorem dX10_breakpoints_28 : decode cX10_breakpoints 28 = .ok (.iconst 0, 1) := by decide +kernel
theorem dX10_breakpoints_29 : decode cX10_breakpoints 29 = .ok (.istore 5, 2) := by decide +kernel
theorem dX10_breakpoints_31 : decode cX10_breakpoints 31 = .ok (.iload 5, 2) := by decide +kernel
theorem dX10_breakpoints_33 : decode cX10_breakpoints 33 = .ok (.aload_n 0, 1) := by decide +kernel
theorem dX10_breakpoints_34 : decode cX10_breakpoints 34 = .ok (.getfield 278, 3) := by decide +kernel
theorem dX10_breakpoints_37 : decode cX10_breakpoints 37 = .ok (.if_icmp .ge 28, 3) := by decide +kernel
theorem dX10_breakpoints_40 : decode cX10_breakpoints 40 = .ok (.iload 4, 2) := by decide +kernel
theorem dX10_breakpoints_42 : decode cX10_breakpoints 42 = .ok (.aload_n 0, 1) := by decide +kernel
theorem dX10_breakpoints_43 : decode cX10_breakpoints 43 = .ok (.iload 5, 2) := by decide +kernel
theorem dX10_breakpoints_45 : decode cX10_breakpoints 45 = .ok (.invokevirtual 301, 3) := by decide +kernel
theorem dX10_breakpoints_48 : decode cX10_breakpoints 48 = .ok (.ifCond .eq 7, 3) := by decide +kernel
theorem dX10_breakpoints_51 : decode cX10_breakpoints 51 = .ok (.iconst 1, 1) := by decide +kernel
theorem dX10_breakpoints_52 : decode cX10_breakpoints 52 = .ok (.goto 4, 3) := by decide +kernel
theorem dX10_breakpoints_55 : decode cX10_breakpoints 55 = .ok (.iconst 0, 1) := by decide +kernel
theorem dX10_breakpoints_56 : decode cX10_breakpoints 56 = .ok (.iadd, 1) := by decide +kernel
theorem dX10_breakpoints_57 : decode cX10_breakpoints 57 = .ok (.istore 4, 2) := by decide +kernel
theorem dX10_breakpoints_59 : decode cX10_breakpoints 59 = .ok (.iinc 5 1, 3) := by decide +kernel
theorem dX10_breakpoints_62 : decode cX10_breakpoints 62 = .ok (.goto (-31), 3) := by decide +kernel
theorem dX10_breakpoints_65 : decode cX10_breakpoints 65 = .ok (.iload 4, 2) := by decide +kernel
theorem dX10_breakpoints_67 : decode cX10_breakpoints 67 = .ok (.ireturn, 1) := by decide +kernel
theorem dX10_breakpoint_0 : decode cX10_breakpoint 0 = .ok (.iload_n 1, 1) := by decide +kernel
theorem dX10_breakpoint_1 : decode cX10_breakpoint 1 = .ok (.iload_n 2, 1) := by decide +kernel
theorem dX10_breakpoint_2 : decode cX10_breakpoint 2 = .ok (.invokestatic 295, 3) := by decide +kernel
theorem dX10_breakpoint_5 : decode cX10_breakpoint 5 = .ok (.ifCond .eq 16, 3) := by decide +kernel
theorem dX10_breakpoint_8 : decode cX10_breakpoint 8 = .ok (.iload_n 3, 1) := by decide +kernel
theorem dX10_breakpoint_9 : decode cX10_breakpoint 9 = .ok (.ifCond .lt 12, 3) := by decide +kernel
theorem dX10_breakpoint_12 : decode cX10_breakpoint 12 = .ok (.aload_n 0, 1) := by decide +kernel
theorem dX10_breakpoint_13 : decode cX10_breakpoint 13 = .ok (.iload_n 1, 1) := by decide +kernel
theorem dX10_breakpoint_14 : decode cX10_breakpoint 14 = .ok (.iload_n 2, 1) := by decide +kernel
theorem dX10_breakpoint_15 : decode cX10_breakpoint 15 = .ok (.invokevirtual 298, 3) := by decide +kernel
theorem dX10_breakpoint_18 : decode cX10_breakpoint 18 = .ok (.ifCond .ge 7, 3) := by decide +kernel
theorem dX10_breakpoint_21 : decode cX10_breakpoint 21 = .ok (.invokestatic 228, 3) := by decide +kernel
theorem dX10_breakpoint_24 : decode cX10_breakpoint 24 = .ok (.lreturn, 1) := by decide +kernel
theorem dX10_breakpoint_25 : decode cX10_breakpoint 25 = .ok (.iconst (-1), 1) := by decide +kernel
theorem dX10_breakpoint_26 : decode cX10_breakpoint 26 = .ok (.istore 5, 2) := by decide +kernel
theorem dX10_breakpoint_28 : decode cX10_breakpoint 28 = .ok (.iconst 0, 1) := by decide +kernel
theorem dX10_breakpoint_29 : decode cX10_breakpoint 29 = .ok (.istore 6, 2) := by decide +kernel
theorem dX10_breakpoint_31 : decode cX10_breakpoint 31 = .ok (.iload 6, 2) := by decide +kernel
theorem dX10_breakpoint_33 : decode cX10_breakpoint 33 = .ok (.aload_n 0, 1) := by decide +kernel
theorem dX10_breakpoint_34 : decode cX10_breakpoint 34 = .ok (.getfield 278, 3) := by decide +kernel
theorem dX10_breakpoint_37 : decode cX10_breakpoint 37 = .ok (.if_icmp .ge 57, 3) := by decide +kernel
theorem dX10_breakpoint_40 : decode cX10_breakpoint 40 = .ok (.iload 5, 2) := by decide +kernel
theorem dX10_breakpoint_42 : decode cX10_breakpoint 42 = .ok (.aload_n 0, 1) := by decide +kernel
theorem dX10_breakpoint_43 : decode cX10_breakpoint 43 = .ok (.iload 6, 2) := by decide +kernel
theorem dX10_breakpoint_45 : decode cX10_breakpoint 45 = .ok (.invokevirtual 301, 3) := by decide +kernel
theorem dX10_breakpoint_48 : decode cX10_breakpoint 48 = .ok (.ifCond .eq 7, 3) := by decide +kernel
theorem dX10_breakpoint_51 : decode cX10_breakpoint 51 = .ok (.iconst 1, 1) := by decide +kernel
theorem dX10_breakpoint_52 : decode cX10_breakpoint 52 = .ok (.goto 4, 3) := by decide +kernel
theorem dX10_breakpoint_55 : decode cX10_breakpoint 55 = .ok (.iconst 0, 1) := by decide +kernel
theorem dX10_breakpoint_56 : decode cX10_breakpoint 56 = .ok (.iadd, 1) := by decide +kernel
theorem dX10_breakpoint_57 : decode cX10_breakpoint 57 = .ok (.istore 5, 2) := by decide +kernel
theorem dX10_breakpoint_59 : decode cX10_breakpoint 59 = .ok (.iload 5, 2) := by decide +kernel
theorem dX10_breakpoint_61 : decode cX10_breakpoint 61 = .ok (.iload_n 3, 1) := by decide +kernel
theorem dX10_breakpoint_62 : decode cX10_breakpoint 62 = .ok (.if_icmp .ne 26, 3) := by decide +kernel
theorem dX10_breakpoint_65 : decode cX10_breakpoint 65 = .ok (.iload 4, 2) := by decide +kernel
theorem dX10_breakpoint_67 : decode cX10_breakpoint 67 = .ok (.ifCond .eq 13, 3) := by decide +kernel
theorem dX10_breakpoint_70 : decode cX10_breakpoint 70 = .ok (.aload_n 0, 1) := by decide +kernel
theorem dX10_breakpoint_71 : decode cX10_breakpoint 71 = .ok (.getfield 87, 3) := by decide +kernel
theorem dX10_breakpoint_74 : decode cX10_breakpoint 74 = .ok (.iload 6, 2) := by decide +kernel
theorem dX10_breakpoint_76 : decode cX10_breakpoint 76 = .ok (.laload, 1) := by decide +kernel
theorem dX10_breakpoint_77 : decode cX10_breakpoint 77 = .ok (.goto 10, 3) := by decide +kernel
theorem dX10_breakpoint_80 : decode cX10_breakpoint 80 = .ok (.aload_n 0, 1) := by decide +kernel
theorem dX10_breakpoint_81 : decode cX10_breakpoint 81 = .ok (.getfield 84, 3) := by decide +kernel
theorem dX10_breakpoint_84 : decode cX10_breakpoint 84 = .ok (.iload 6, 2) := by decide +kernel
theorem dX10_breakpoint_86 : decode cX10_breakpoint 86 = .ok (.laload, 1) := by decide +kernel
theorem dX10_breakpoint_87 : decode cX10_breakpoint 87 = .ok (.lreturn, 1) := by decide +kernel
theorem dX10_breakpoint_88 : decode cX10_breakpoint 88 = .ok (.iinc 6 1, 3) := by decide +kernel
theorem dX10_breakpoint_91 : decode cX10_breakpoint 91 = .ok (.goto (-60), 3) := by decide +kernel
theorem dX10_breakpoint_94 : decode cX10_breakpoint 94 = .ok (.invokestatic 228, 3) := by decide +kernel
theorem dX10_breakpoint_97 : decode cX10_breakpoint 97 = .ok (.lreturn, 1) := by decide +kernel
theorem dX10_slope_0 : decode cX10_slope 0 = .ok (.iload_n 1, 1) := by decide +kernel
theorem dX10_slope_1 : decode cX10_slope 1 = .ok (.iload_n 2, 1) := by decide +kernel
theorem dX10_slope_2 : decode cX10_slope 2 = .ok (.invokestatic 295, 3) := by decide +kernel
theorem dX10_slope_5 : decode cX10_slope 5 = .ok (.ifCond .eq 16, 3) := by decide +kernel
theorem dX10_slope_8 : decode cX10_slope 8 = .ok (.iload_n 3, 1) := by decide +kernel
theorem dX10_slope_9 : decode cX10_slope 9 = .ok (.ifCond .lt 12, 3) := by decide +kernel
theorem dX10_slope_12 : decode cX10_slope 12 = .ok (.aload_n 0, 1) := by decide +kernel
theorem dX10_slope_13 : decode cX10_slope 13 = .ok (.iload_n 1, 1) := by decide +kernel
theorem dX10_slope_14 : decode cX10_slope 14 = .ok (.iload_n 2, 1) := by decide +kernel
theorem dX10_slope_15 : decode cX10_slope 15 = .ok (.invokevirtual 298, 3) := by decide +kernel
theorem dX10_slope_18 : decode cX10_slope 18 = .ok (.ifCond .ge 7, 3) := by decide +kernel
theorem dX10_slope_21 : decode cX10_slope 21 = .ok (.invokestatic 228, 3) := by decide +kernel
theorem dX10_slope_24 : decode cX10_slope 24 = .ok (.lreturn, 1) := by decide +kernel
theorem dX10_slope_25 : decode cX10_slope 25 = .ok (.iconst 0, 1) := by decide +kernel
theorem dX10_slope_26 : decode cX10_slope 26 = .ok (.istore 4, 2) := by decide +kernel
theorem dX10_slope_28 : decode cX10_slope 28 = .ok (.iconst 0, 1) := by decide +kernel
theorem dX10_slope_29 : decode cX10_slope 29 = .ok (.istore 5, 2) := by decide +kernel
theorem dX10_slope_31 : decode cX10_slope 31 = .ok (.iload 5, 2) := by decide +kernel
theorem dX10_slope_33 : decode cX10_slope 33 = .ok (.aload_n 0, 1) := by decide +kernel
theorem dX10_slope_34 : decode cX10_slope 34 = .ok (.getfield 278, 3) := by decide +kernel
theorem dX10_slope_37 : decode cX10_slope 37 = .ok (.iconst 1, 1) := by decide +kernel
theorem dX10_slope_38 : decode cX10_slope 38 = .ok (.isub, 1) := by decide +kernel
theorem dX10_slope_39 : decode cX10_slope 39 = .ok (.if_icmp .ge 42, 3) := by decide +kernel
theorem dX10_slope_42 : decode cX10_slope 42 = .ok (.iload 4, 2) := by decide +kernel
theorem dX10_slope_44 : decode cX10_slope 44 = .ok (.aload_n 0, 1) := by decide +kernel
theorem dX10_slope_45 : decode cX10_slope 45 = .ok (.iload 5, 2) := by decide +kernel
theorem dX10_slope_47 : decode cX10_slope 47 = .ok (.invokevirtual 301, 3) := by decide +kernel
theorem dX10_slope_50 : decode cX10_slope 50 = .ok (.ifCond .eq 7, 3) := by decide +kernel
theorem dX10_slope_53 : decode cX10_slope 53 = .ok (.iconst 1, 1) := by decide +kernel
theorem dX10_slope_54 : decode cX10_slope 54 = .ok (.goto 4, 3) := by decide +kernel
theorem dX10_slope_57 : decode cX10_slope 57 = .ok (.iconst 0, 1) := by decide +kernel
theorem dX10_slope_58 : decode cX10_slope 58 = .ok (.iadd, 1) := by decide +kernel
theorem dX10_slope_59 : decode cX10_slope 59 = .ok (.istore 4, 2) := by decide +kernel
theorem dX10_slope_61 : decode cX10_slope 61 = .ok (.iload 4, 2) := by decide +kernel
theorem dX10_slope_63 : decode cX10_slope 63 = .ok (.iload_n 3, 1) := by decide +kernel
theorem dX10_slope_64 : decode cX10_slope 64 = .ok (.if_icmp .ne 11, 3) := by decide +kernel
theorem dX10_slope_67 : decode cX10_slope 67 = .ok (.aload_n 0, 1) := by decide +kernel
theorem dX10_slope_68 : decode cX10_slope 68 = .ok (.getfield 99, 3) := by decide +kernel
theorem dX10_slope_71 : decode cX10_slope 71 = .ok (.iload 5, 2) := by decide +kernel
theorem dX10_slope_73 : decode cX10_slope 73 = .ok (.laload, 1) := by decide +kernel
theorem dX10_slope_74 : decode cX10_slope 74 = .ok (.lreturn, 1) := by decide +kernel
theorem dX10_slope_75 : decode cX10_slope 75 = .ok (.iinc 5 1, 3) := by decide +kernel
theorem dX10_slope_78 : decode cX10_slope 78 = .ok (.goto (-47), 3) := by decide +kernel
theorem dX10_slope_81 : decode cX10_slope 81 = .ok (.invokestatic 228, 3) := by decide +kernel
theorem dX10_slope_84 : decode cX10_slope 84 = .ok (.lreturn, 1) := by decide +kernel
