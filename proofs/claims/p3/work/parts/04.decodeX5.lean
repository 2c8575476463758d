theorem dX5_init_0 : decode cX5_init 0 = .ok (.aload_n 0, 1) := by decide +kernel
theorem dX5_init_1 : decode cX5_init 1 = .ok (.invokespecial 1, 3) := by decide +kernel
theorem dX5_init_4 : decode cX5_init 4 = .ok (.aload_n 0, 1) := by decide +kernel
theorem dX5_init_5 : decode cX5_init 5 = .ok (.sipush 5632, 3) := by decide +kernel
theorem dX5_init_8 : decode cX5_init 8 = .ok (.newarray .byte, 2) := by decide +kernel
theorem dX5_init_10 : decode cX5_init 10 = .ok (.putfield 7, 3) := by decide +kernel
theorem dX5_init_13 : decode cX5_init 13 = .ok (.aload_n 0, 1) := by decide +kernel
theorem dX5_init_14 : decode cX5_init 14 = .ok (.iconst 3, 1) := by decide +kernel
theorem dX5_init_15 : decode cX5_init 15 = .ok (.newarray .int, 2) := by decide +kernel
theorem dX5_init_17 : decode cX5_init 17 = .ok (.putfield 13, 3) := by decide +kernel
theorem dX5_init_20 : decode cX5_init 20 = .ok (.aload_n 0, 1) := by decide +kernel
theorem dX5_init_21 : decode cX5_init 21 = .ok (.sipush 8192, 3) := by decide +kernel
theorem dX5_init_24 : decode cX5_init 24 = .ok (.newarray .byte, 2) := by decide +kernel
theorem dX5_init_26 : decode cX5_init 26 = .ok (.putfield 17, 3) := by decide +kernel
theorem dX5_init_29 : decode cX5_init 29 = .ok (.aload_n 0, 1) := by decide +kernel
theorem dX5_init_30 : decode cX5_init 30 = .ok (.sipush 520, 3) := by decide +kernel
theorem dX5_init_33 : decode cX5_init 33 = .ok (.newarray .int, 2) := by decide +kernel
theorem dX5_init_35 : decode cX5_init 35 = .ok (.putfield 20, 3) := by decide +kernel
theorem dX5_init_38 : decode cX5_init 38 = .ok (.aload_n 0, 1) := by decide +kernel
theorem dX5_init_39 : decode cX5_init 39 = .ok (.sipush 520, 3) := by decide +kernel
theorem dX5_init_42 : decode cX5_init 42 = .ok (.newarray .int, 2) := by decide +kernel
theorem dX5_init_44 : decode cX5_init 44 = .ok (.putfield 23, 3) := by decide +kernel
theorem dX5_init_47 : decode cX5_init 47 = .ok (.aload_n 0, 1) := by decide +kernel
theorem dX5_init_48 : decode cX5_init 48 = .ok (.sipush 520, 3) := by decide +kernel
theorem dX5_init_51 : decode cX5_init 51 = .ok (.newarray .int, 2) := by decide +kernel
theorem dX5_init_53 : decode cX5_init 53 = .ok (.putfield 26, 3) := by decide +kernel
theorem dX5_init_56 : decode cX5_init 56 = .ok (.aload_n 0, 1) := by decide +kernel
theorem dX5_init_57 : decode cX5_init 57 = .ok (.sipush 520, 3) := by decide +kernel
theorem dX5_init_60 : decode cX5_init 60 = .ok (.newarray .int, 2) := by decide +kernel
theorem dX5_init_62 : decode cX5_init 62 = .ok (.putfield 29, 3) := by decide +kernel
theorem dX5_init_65 : decode cX5_init 65 = .ok (.aload_n 0, 1) := by decide +kernel
theorem dX5_init_66 : decode cX5_init 66 = .ok (.sipush 520, 3) := by decide +kernel
theorem dX5_init_69 : decode cX5_init 69 = .ok (.newarray .int, 2) := by decide +kernel
theorem dX5_init_71 : decode cX5_init 71 = .ok (.putfield 32, 3) := by decide +kernel
theorem dX5_init_74 : decode cX5_init 74 = .ok (.aload_n 0, 1) := by decide +kernel
theorem dX5_init_75 : decode cX5_init 75 = .ok (.sipush 520, 3) := by decide +kernel
theorem dX5_init_78 : decode cX5_init 78 = .ok (.newarray .int, 2) := by decide +kernel
theorem dX5_init_80 : decode cX5_init 80 = .ok (.putfield 35, 3) := by decide +kernel
theorem dX5_init_83 : decode cX5_init 83 = .ok (.aload_n 0, 1) := by decide +kernel
theorem dX5_init_84 : decode cX5_init 84 = .ok (.bipush 33, 2) := by decide +kernel
theorem dX5_init_86 : decode cX5_init 86 = .ok (.newarray .int, 2) := by decide +kernel
theorem dX5_init_88 : decode cX5_init 88 = .ok (.putfield 38, 3) := by decide +kernel
theorem dX5_init_91 : decode cX5_init 91 = .ok (.aload_n 0, 1) := by decide +kernel
theorem dX5_init_92 : decode cX5_init 92 = .ok (.bipush 33, 2) := by decide +kernel
theorem dX5_init_94 : decode cX5_init 94 = .ok (.newarray .int, 2) := by decide +kernel
theorem dX5_init_96 : decode cX5_init 96 = .ok (.putfield 41, 3) := by decide +kernel
theorem dX5_init_99 : decode cX5_init 99 = .ok (.aload_n 0, 1) := by decide +kernel
theorem dX5_init_100 : decode cX5_init 100 = .ok (.iconst (-1), 1) := by decide +kernel
theorem dX5_init_101 : decode cX5_init 101 = .ok (.putfield 44, 3) := by decide +kernel
theorem dX5_init_104 : decode cX5_init 104 = .ok (.return_, 1) := by decide +kernel
theorem dX5_beginOf_0 : decode cX5_beginOf 0 = .ok (.iload_n 0, 1) := by decide +kernel
theorem dX5_beginOf_1 : decode cX5_beginOf 1 = .ok (.ifCond .ne 7, 3) := by decide +kernel
theorem dX5_beginOf_4 : decode cX5_beginOf 4 = .ok (.iconst 0, 1) := by decide +kernel
theorem dX5_beginOf_5 : decode cX5_beginOf 5 = .ok (.goto 17, 3) := by decide +kernel
theorem dX5_beginOf_8 : decode cX5_beginOf 8 = .ok (.iload_n 0, 1) := by decide +kernel
theorem dX5_beginOf_9 : decode cX5_beginOf 9 = .ok (.iconst 1, 1) := by decide +kernel
theorem dX5_beginOf_10 : decode cX5_beginOf 10 = .ok (.if_icmp .ne 9, 3) := by decide +kernel
theorem dX5_beginOf_13 : decode cX5_beginOf 13 = .ok (.sipush 4096, 3) := by decide +kernel
theorem dX5_beginOf_16 : decode cX5_beginOf 16 = .ok (.goto 6, 3) := by decide +kernel
theorem dX5_beginOf_19 : decode cX5_beginOf 19 = .ok (.sipush 4608, 3) := by decide +kernel
theorem dX5_beginOf_22 : decode cX5_beginOf 22 = .ok (.ireturn, 1) := by decide +kernel
theorem dX5_most_0 : decode cX5_most 0 = .ok (.iload_n 0, 1) := by decide +kernel
theorem dX5_most_1 : decode cX5_most 1 = .ok (.ifCond .ne 9, 3) := by decide +kernel
theorem dX5_most_4 : decode cX5_most 4 = .ok (.sipush 4096, 3) := by decide +kernel
theorem dX5_most_7 : decode cX5_most 7 = .ok (.goto 6, 3) := by decide +kernel
theorem dX5_most_10 : decode cX5_most 10 = .ok (.sipush 512, 3) := by decide +kernel
theorem dX5_most_13 : decode cX5_most 13 = .ok (.ireturn, 1) := by decide +kernel
theorem dX5_at_0 : decode cX5_at 0 = .ok (.iload_n 2, 1) := by decide +kernel
theorem dX5_at_1 : decode cX5_at 1 = .ok (.aload_n 0, 1) := by decide +kernel
theorem dX5_at_2 : decode cX5_at 2 = .ok (.getfield 13, 3) := by decide +kernel
theorem dX5_at_5 : decode cX5_at 5 = .ok (.iload_n 1, 1) := by decide +kernel
theorem dX5_at_6 : decode cX5_at 6 = .ok (.iaload, 1) := by decide +kernel
theorem dX5_at_7 : decode cX5_at 7 = .ok (.if_icmp .ge 21, 3) := by decide +kernel
theorem dX5_at_10 : decode cX5_at 10 = .ok (.aload_n 0, 1) := by decide +kernel
theorem dX5_at_11 : decode cX5_at 11 = .ok (.getfield 7, 3) := by decide +kernel
theorem dX5_at_14 : decode cX5_at 14 = .ok (.iload_n 1, 1) := by decide +kernel
theorem dX5_at_15 : decode cX5_at 15 = .ok (.invokestatic 52, 3) := by decide +kernel
theorem dX5_at_18 : decode cX5_at 18 = .ok (.iload_n 2, 1) := by decide +kernel
theorem dX5_at_19 : decode cX5_at 19 = .ok (.iadd, 1) := by decide +kernel
theorem dX5_at_20 : decode cX5_at 20 = .ok (.baload, 1) := by decide +kernel
theorem dX5_at_21 : decode cX5_at 21 = .ok (.sipush 255, 3) := by decide +kernel
theorem dX5_at_24 : decode cX5_at 24 = .ok (.iand, 1) := by decide +kernel
theorem dX5_at_25 : decode cX5_at 25 = .ok (.goto 4, 3) := by decide +kernel
theorem dX5_at_28 : decode cX5_at 28 = .ok (.iconst (-1), 1) := by decide +kernel
theorem dX5_at_29 : decode cX5_at 29 = .ok (.ireturn, 1) := by decide +kernel
theorem dX5_pattern_0 : decode cX5_pattern 0 = .ok (.aload_n 0, 1) := by decide +kernel
theorem dX5_pattern_1 : decode cX5_pattern 1 = .ok (.iconst 1, 1) := by decide +kernel
theorem dX5_pattern_2 : decode cX5_pattern 2 = .ok (.iload_n 1, 1) := by decide +kernel
theorem dX5_pattern_3 : decode cX5_pattern 3 = .ok (.invokevirtual 59, 3) := by decide +kernel
theorem dX5_pattern_6 : decode cX5_pattern 6 = .ok (.ireturn, 1) := by decide +kernel
theorem dX5_isBetween_0 : decode cX5_isBetween 0 = .ok (.iload_n 0, 1) := by decide +kernel
theorem dX5_isBetween_1 : decode cX5_isBetween 1 = .ok (.iload_n 1, 1) := by decide +kernel
theorem dX5_isBetween_2 : decode cX5_isBetween 2 = .ok (.if_icmp .lt 12, 3) := by decide +kernel
theorem dX5_isBetween_5 : decode cX5_isBetween 5 = .ok (.iload_n 0, 1) := by decide +kernel
theorem dX5_isBetween_6 : decode cX5_isBetween 6 = .ok (.iload_n 2, 1) := by decide +kernel
theorem dX5_isBetween_7 : decode cX5_isBetween 7 = .ok (.if_icmp .gt 7, 3) := by decide +kernel
theorem dX5_isBetween_10 : decode cX5_isBetween 10 = .ok (.iconst 1, 1) := by decide +kernel
theorem dX5_isBetween_11 : decode cX5_isBetween 11 = .ok (.goto 4, 3) := by decide +kernel
theorem dX5_isBetween_14 : decode cX5_isBetween 14 = .ok (.iconst 0, 1) := by decide +kernel
theorem dX5_isBetween_15 : decode cX5_isBetween 15 = .ok (.ireturn, 1) := by decide +kernel
theorem dX5_isLetter_0 : decode cX5_isLetter 0 = .ok (.iload_n 0, 1) := by decide +kernel
theorem dX5_isLetter_1 : decode cX5_isLetter 1 = .ok (.bipush 97, 2) := by decide +kernel
theorem dX5_isLetter_3 : decode cX5_isLetter 3 = .ok (.bipush 122, 2) := by decide +kernel
theorem dX5_isLetter_5 : decode cX5_isLetter 5 = .ok (.invokestatic 63, 3) := by decide +kernel
theorem dX5_isLetter_8 : decode cX5_isLetter 8 = .ok (.ifCond .ne 14, 3) := by decide +kernel
theorem dX5_isLetter_11 : decode cX5_isLetter 11 = .ok (.iload_n 0, 1) := by decide +kernel
theorem dX5_isLetter_12 : decode cX5_isLetter 12 = .ok (.bipush 65, 2) := by decide +kernel
theorem dX5_isLetter_14 : decode cX5_isLetter 14 = .ok (.bipush 90, 2) := by decide +kernel
theorem dX5_isLetter_16 : decode cX5_isLetter 16 = .ok (.invokestatic 63, 3) := by decide +kernel
theorem dX5_isLetter_19 : decode cX5_isLetter 19 = .ok (.ifCond .eq 7, 3) := by decide +kernel
theorem dX5_isLetter_22 : decode cX5_isLetter 22 = .ok (.iconst 1, 1) := by decide +kernel
theorem dX5_isLetter_23 : decode cX5_isLetter 23 = .ok (.goto 4, 3) := by decide +kernel
theorem dX5_isLetter_26 : decode cX5_isLetter 26 = .ok (.iconst 0, 1) := by decide +kernel
theorem dX5_isLetter_27 : decode cX5_isLetter 27 = .ok (.ireturn, 1) := by decide +kernel
theorem dX5_isDigit_0 : decode cX5_isDigit 0 = .ok (.iload_n 0, 1) := by decide +kernel
theorem dX5_isDigit_1 : decode cX5_isDigit 1 = .ok (.bipush 48, 2) := by decide +kernel
theorem dX5_isDigit_3 : decode cX5_isDigit 3 = .ok (.bipush 57, 2) := by decide +kernel
theorem dX5_isDigit_5 : decode cX5_isDigit 5 = .ok (.invokestatic 63, 3) := by decide +kernel
theorem dX5_isDigit_8 : decode cX5_isDigit 8 = .ok (.ireturn, 1) := by decide +kernel
theorem dX5_classHas_0 : decode cX5_classHas 0 = .ok (.iload_n 0, 1) := by decide +kernel
theorem dX5_classHas_1 : decode cX5_classHas 1 = .ok (.bipush 65, 2) := by decide +kernel
theorem dX5_classHas_3 : decode cX5_classHas 3 = .ok (.bipush 90, 2) := by decide +kernel
theorem dX5_classHas_5 : decode cX5_classHas 5 = .ok (.invokestatic 63, 3) := by decide +kernel
theorem dX5_classHas_8 : decode cX5_classHas 8 = .ok (.ifCond .eq 10, 3) := by decide +kernel
theorem dX5_classHas_11 : decode cX5_classHas 11 = .ok (.iload_n 0, 1) := by decide +kernel
theorem dX5_classHas_12 : decode cX5_classHas 12 = .ok (.bipush 32, 2) := by decide +kernel
theorem dX5_classHas_14 : decode cX5_classHas 14 = .ok (.iadd, 1) := by decide +kernel
theorem dX5_classHas_15 : decode cX5_classHas 15 = .ok (.goto 4, 3) := by decide +kernel
theorem dX5_classHas_18 : decode cX5_classHas 18 = .ok (.iload_n 0, 1) := by decide +kernel
theorem dX5_classHas_19 : decode cX5_classHas 19 = .ok (.istore_n 2, 1) := by decide +kernel
theorem dX5_classHas_20 : decode cX5_classHas 20 = .ok (.iconst 0, 1) := by decide +kernel
theorem dX5_classHas_21 : decode cX5_classHas 21 = .ok (.istore_n 3, 1) := by decide +kernel
theorem dX5_classHas_22 : decode cX5_classHas 22 = .ok (.iload_n 2, 1) := by decide +kernel
theorem dX5_classHas_23 : decode cX5_classHas 23 = .ok (.tableswitch 303 97 120 #[109, 303, 282, 117, 303, 303, 236, 303, 303, 303, 303, 125, 303, 303, 303, 248, 303, 303, 172, 303, 137, 303, 149, 198], 109) := by decide +kernel
theorem dX5_classHas_132 : decode cX5_classHas 132 = .ok (.iload_n 1, 1) := by decide +kernel
theorem dX5_classHas_133 : decode cX5_classHas 133 = .ok (.invokestatic 67, 3) := by decide +kernel
theorem dX5_classHas_136 : decode cX5_classHas 136 = .ok (.istore_n 3, 1) := by decide +kernel
theorem dX5_classHas_137 : decode cX5_classHas 137 = .ok (.goto 200, 3) := by decide +kernel
theorem dX5_classHas_140 : decode cX5_classHas 140 = .ok (.iload_n 1, 1) := by decide +kernel
theorem dX5_classHas_141 : decode cX5_classHas 141 = .ok (.invokestatic 71, 3) := by decide +kernel
theorem dX5_classHas_144 : decode cX5_classHas 144 = .ok (.istore_n 3, 1) := by decide +kernel
theorem dX5_classHas_145 : decode cX5_classHas 145 = .ok (.goto 192, 3) := by decide +kernel
theorem dX5_classHas_148 : decode cX5_classHas 148 = .ok (.iload_n 1, 1) := by decide +kernel
theorem dX5_classHas_149 : decode cX5_classHas 149 = .ok (.bipush 97, 2) := by decide +kernel
theorem dX5_classHas_151 : decode cX5_classHas 151 = .ok (.bipush 122, 2) := by decide +kernel
theorem dX5_classHas_153 : decode cX5_classHas 153 = .ok (.invokestatic 63, 3) := by decide +kernel
theorem dX5_classHas_156 : decode cX5_classHas 156 = .ok (.istore_n 3, 1) := by decide +kernel
theorem dX5_classHas_157 : decode cX5_classHas 157 = .ok (.goto 180, 3) := by decide +kernel
theorem dX5_classHas_160 : decode cX5_classHas 160 = .ok (.iload_n 1, 1) := by decide +kernel
theorem dX5_classHas_161 : decode cX5_classHas 161 = .ok (.bipush 65, 2) := by decide +kernel
theorem dX5_classHas_163 : decode cX5_classHas 163 = .ok (.bipush 90, 2) := by decide +kernel
theorem dX5_classHas_165 : decode cX5_classHas 165 = .ok (.invokestatic 63, 3) := by decide +kernel
theorem dX5_classHas_168 : decode cX5_classHas 168 = .ok (.istore_n 3, 1) := by decide +kernel
theorem dX5_classHas_169 : decode cX5_classHas 169 = .ok (.goto 168, 3) := by decide +kernel
theorem dX5_classHas_172 : decode cX5_classHas 172 = .ok (.iload_n 1, 1) := by decide +kernel
theorem dX5_classHas_173 : decode cX5_classHas 173 = .ok (.invokestatic 67, 3) := by decide +kernel
theorem dX5_classHas_176 : decode cX5_classHas 176 = .ok (.ifCond .ne 10, 3) := by decide +kernel
theorem dX5_classHas_179 : decode cX5_classHas 179 = .ok (.iload_n 1, 1) := by decide +kernel
theorem dX5_classHas_180 : decode cX5_classHas 180 = .ok (.invokestatic 71, 3) := by decide +kernel
theorem dX5_classHas_183 : decode cX5_classHas 183 = .ok (.ifCond .eq 7, 3) := by decide +kernel
theorem dX5_classHas_186 : decode cX5_classHas 186 = .ok (.iconst 1, 1) := by decide +kernel
theorem dX5_classHas_187 : decode cX5_classHas 187 = .ok (.goto 4, 3) := by decide +kernel
theorem dX5_classHas_190 : decode cX5_classHas 190 = .ok (.iconst 0, 1) := by decide +kernel
theorem dX5_classHas_191 : decode cX5_classHas 191 = .ok (.istore_n 3, 1) := by decide +kernel
theorem dX5_classHas_192 : decode cX5_classHas 192 = .ok (.goto 145, 3) := by decide +kernel
theorem dX5_classHas_195 : decode cX5_classHas 195 = .ok (.iload_n 1, 1) := by decide +kernel
theorem dX5_classHas_196 : decode cX5_classHas 196 = .ok (.bipush 32, 2) := by decide +kernel
theorem dX5_classHas_198 : decode cX5_classHas 198 = .ok (.if_icmp .eq 14, 3) := by decide +kernel
theorem dX5_classHas_201 : decode cX5_classHas 201 = .ok (.iload_n 1, 1) := by decide +kernel
theorem dX5_classHas_202 : decode cX5_classHas 202 = .ok (.bipush 9, 2) := by decide +kernel
theorem dX5_classHas_204 : decode cX5_classHas 204 = .ok (.bipush 13, 2) := by decide +kernel
theorem dX5_classHas_206 : decode cX5_classHas 206 = .ok (.invokestatic 63, 3) := by decide +kernel
theorem dX5_classHas_209 : decode cX5_classHas 209 = .ok (.ifCond .eq 7, 3) := by decide +kernel
theorem dX5_classHas_212 : decode cX5_classHas 212 = .ok (.iconst 1, 1) := by decide +kernel
theorem dX5_classHas_213 : decode cX5_classHas 213 = .ok (.goto 4, 3) := by decide +kernel
theorem dX5_classHas_216 : decode cX5_classHas 216 = .ok (.iconst 0, 1) := by decide +kernel
theorem dX5_classHas_217 : decode cX5_classHas 217 = .ok (.istore_n 3, 1) := by decide +kernel
theorem dX5_classHas_218 : decode cX5_classHas 218 = .ok (.goto 119, 3) := by decide +kernel
theorem dX5_classHas_221 : decode cX5_classHas 221 = .ok (.iload_n 1, 1) := by decide +kernel
theorem dX5_classHas_222 : decode cX5_classHas 222 = .ok (.invokestatic 71, 3) := by decide +kernel
theorem dX5_classHas_225 : decode cX5_classHas 225 = .ok (.ifCond .ne 25, 3) := by decide +kernel
theorem dX5_classHas_228 : decode cX5_classHas 228 = .ok (.iload_n 1, 1) := by decide +kernel
theorem dX5_classHas_229 : decode cX5_classHas 229 = .ok (.bipush 97, 2) := by decide +kernel
theorem dX5_classHas_231 : decode cX5_classHas 231 = .ok (.bipush 102, 2) := by decide +kernel
theorem dX5_classHas_233 : decode cX5_classHas 233 = .ok (.invokestatic 63, 3) := by decide +kernel
theorem dX5_classHas_236 : decode cX5_classHas 236 = .ok (.ifCond .ne 14, 3) := by decide +kernel
theorem dX5_classHas_239 : decode cX5_classHas 239 = .ok (.iload_n 1, 1) := by decide +kernel
theorem dX5_classHas_240 : decode cX5_classHas 240 = .ok (.bipush 65, 2) := by decide +kernel
theorem dX5_classHas_242 : decode cX5_classHas 242 = .ok (.bipush 70, 2) := by decide +kernel
theorem dX5_classHas_244 : decode cX5_classHas 244 = .ok (.invokestatic 63, 3) := by decide +kernel
theorem dX5_classHas_247 : decode cX5_classHas 247 = .ok (.ifCond .eq 7, 3) := by decide +kernel
theorem dX5_classHas_250 : decode cX5_classHas 250 = .ok (.iconst 1, 1) := by decide +kernel
theorem dX5_classHas_251 : decode cX5_classHas 251 = .ok (.goto 4, 3) := by decide +kernel
theorem dX5_classHas_254 : decode cX5_classHas 254 = .ok (.iconst 0, 1) := by decide +kernel
theorem dX5_classHas_255 : decode cX5_classHas 255 = .ok (.istore_n 3, 1) := by decide +kernel
theorem dX5_classHas_256 : decode cX5_classHas 256 = .ok (.goto 81, 3) := by decide +kernel
theorem dX5_classHas_259 : decode cX5_classHas 259 = .ok (.iload_n 1, 1) := by decide +kernel
theorem dX5_classHas_260 : decode cX5_classHas 260 = .ok (.bipush 33, 2) := by decide +kernel
theorem dX5_classHas_262 : decode cX5_classHas 262 = .ok (.bipush 126, 2) := by decide +kernel
theorem dX5_classHas_264 : decode cX5_classHas 264 = .ok (.invokestatic 63, 3) := by decide +kernel
theorem dX5_classHas_267 : decode cX5_classHas 267 = .ok (.istore_n 3, 1) := by decide +kernel
theorem dX5_classHas_268 : decode cX5_classHas 268 = .ok (.goto 69, 3) := by decide +kernel
theorem dX5_classHas_271 : decode cX5_classHas 271 = .ok (.iload_n 1, 1) := by decide +kernel
theorem dX5_classHas_272 : decode cX5_classHas 272 = .ok (.bipush 33, 2) := by decide +kernel
theorem dX5_classHas_274 : decode cX5_classHas 274 = .ok (.bipush 126, 2) := by decide +kernel
theorem dX5_classHas_276 : decode cX5_classHas 276 = .ok (.invokestatic 63, 3) := by decide +kernel
theorem dX5_classHas_279 : decode cX5_classHas 279 = .ok (.ifCond .eq 21, 3) := by decide +kernel
theorem dX5_classHas_282 : decode cX5_classHas 282 = .ok (.iload_n 1, 1) := by decide +kernel
theorem dX5_classHas_283 : decode cX5_classHas 283 = .ok (.invokestatic 67, 3) := by decide +kernel
theorem dX5_classHas_286 : decode cX5_classHas 286 = .ok (.ifCond .ne 14, 3) := by decide +kernel
theorem dX5_classHas_289 : decode cX5_classHas 289 = .ok (.iload_n 1, 1) := by decide +kernel
theorem dX5_classHas_290 : decode cX5_classHas 290 = .ok (.invokestatic 71, 3) := by decide +kernel
theorem dX5_classHas_293 : decode cX5_classHas 293 = .ok (.ifCond .ne 7, 3) := by decide +kernel
theorem dX5_classHas_296 : decode cX5_classHas 296 = .ok (.iconst 1, 1) := by decide +kernel
theorem dX5_classHas_297 : decode cX5_classHas 297 = .ok (.goto 4, 3) := by decide +kernel
theorem dX5_classHas_300 : decode cX5_classHas 300 = .ok (.iconst 0, 1) := by decide +kernel
theorem dX5_classHas_301 : decode cX5_classHas 301 = .ok (.istore_n 3, 1) := by decide +kernel
theorem dX5_classHas_302 : decode cX5_classHas 302 = .ok (.goto 35, 3) := by decide +kernel
theorem dX5_classHas_305 : decode cX5_classHas 305 = .ok (.iload_n 1, 1) := by decide +kernel
theorem dX5_classHas_306 : decode cX5_classHas 306 = .ok (.bipush 32, 2) := by decide +kernel
theorem dX5_classHas_308 : decode cX5_classHas 308 = .ok (.if_icmp .lt 9, 3) := by decide +kernel
theorem dX5_classHas_311 : decode cX5_classHas 311 = .ok (.iload_n 1, 1) := by decide +kernel
theorem dX5_classHas_312 : decode cX5_classHas 312 = .ok (.bipush 127, 2) := by decide +kernel
theorem dX5_classHas_314 : decode cX5_classHas 314 = .ok (.if_icmp .ne 7, 3) := by decide +kernel
theorem dX5_classHas_317 : decode cX5_classHas 317 = .ok (.iconst 1, 1) := by decide +kernel
theorem dX5_classHas_318 : decode cX5_classHas 318 = .ok (.goto 4, 3) := by decide +kernel
theorem dX5_classHas_321 : decode cX5_classHas 321 = .ok (.iconst 0, 1) := by decide +kernel
theorem dX5_classHas_322 : decode cX5_classHas 322 = .ok (.istore_n 3, 1) := by decide +kernel
theorem dX5_classHas_323 : decode cX5_classHas 323 = .ok (.goto 14, 3) := by decide +kernel
theorem dX5_classHas_326 : decode cX5_classHas 326 = .ok (.iload_n 0, 1) := by decide +kernel
theorem dX5_classHas_327 : decode cX5_classHas 327 = .ok (.iload_n 1, 1) := by decide +kernel
theorem dX5_classHas_328 : decode cX5_classHas 328 = .ok (.if_icmp .ne 7, 3) := by decide +kernel
theorem dX5_classHas_331 : decode cX5_classHas 331 = .ok (.iconst 1, 1) := by decide +kernel
theorem dX5_classHas_332 : decode cX5_classHas 332 = .ok (.goto 4, 3) := by decide +kernel
theorem dX5_classHas_335 : decode cX5_classHas 335 = .ok (.iconst 0, 1) := by decide +kernel
theorem dX5_classHas_336 : decode cX5_classHas 336 = .ok (.ireturn, 1) := by decide +kernel
theorem dX5_classHas_337 : decode cX5_classHas 337 = .ok (.iload_n 3, 1) := by decide +kernel
theorem dX5_classHas_338 : decode cX5_classHas 338 = .ok (.iload_n 2, 1) := by decide +kernel
theorem dX5_classHas_339 : decode cX5_classHas 339 = .ok (.iload_n 0, 1) := by decide +kernel
theorem dX5_classHas_340 : decode cX5_classHas 340 = .ok (.if_icmp .ne 7, 3) := by decide +kernel
theorem dX5_classHas_343 : decode cX5_classHas 343 = .ok (.iconst 1, 1) := by decide +kernel
theorem dX5_classHas_344 : decode cX5_classHas 344 = .ok (.goto 4, 3) := by decide +kernel
theorem dX5_classHas_347 : decode cX5_classHas 347 = .ok (.iconst 0, 1) := by decide +kernel
theorem dX5_classHas_348 : decode cX5_classHas 348 = .ok (.if_icmp .ne 7, 3) := by decide +kernel
theorem dX5_classHas_351 : decode cX5_classHas 351 = .ok (.iconst 1, 1) := by decide +kernel
theorem dX5_classHas_352 : decode cX5_classHas 352 = .ok (.goto 4, 3) := by decide +kernel
theorem dX5_classHas_355 : decode cX5_classHas 355 = .ok (.iconst 0, 1) := by decide +kernel
theorem dX5_classHas_356 : decode cX5_classHas 356 = .ok (.ireturn, 1) := by decide +kernel
theorem dX5_closing_0 : decode cX5_closing 0 = .ok (.aload_n 0, 1) := by decide +kernel
theorem dX5_closing_1 : decode cX5_closing 1 = .ok (.iload_n 1, 1) := by decide +kernel
theorem dX5_closing_2 : decode cX5_closing 2 = .ok (.iconst 1, 1) := by decide +kernel
theorem dX5_closing_3 : decode cX5_closing 3 = .ok (.iadd, 1) := by decide +kernel
theorem dX5_closing_4 : decode cX5_closing 4 = .ok (.invokevirtual 74, 3) := by decide +kernel
theorem dX5_closing_7 : decode cX5_closing 7 = .ok (.bipush 94, 2) := by decide +kernel
theorem dX5_closing_9 : decode cX5_closing 9 = .ok (.if_icmp .ne 9, 3) := by decide +kernel
theorem dX5_closing_12 : decode cX5_closing 12 = .ok (.iload_n 1, 1) := by decide +kernel
theorem dX5_closing_13 : decode cX5_closing 13 = .ok (.iconst 2, 1) := by decide +kernel
theorem dX5_closing_14 : decode cX5_closing 14 = .ok (.iadd, 1) := by decide +kernel
theorem dX5_closing_15 : decode cX5_closing 15 = .ok (.goto 6, 3) := by decide +kernel
theorem dX5_closing_18 : decode cX5_closing 18 = .ok (.iload_n 1, 1) := by decide +kernel
theorem dX5_closing_19 : decode cX5_closing 19 = .ok (.iconst 1, 1) := by decide +kernel
theorem dX5_closing_20 : decode cX5_closing 20 = .ok (.iadd, 1) := by decide +kernel
theorem dX5_closing_21 : decode cX5_closing 21 = .ok (.istore_n 2, 1) := by decide +kernel
theorem dX5_closing_22 : decode cX5_closing 22 = .ok (.iload_n 2, 1) := by decide +kernel
theorem dX5_closing_23 : decode cX5_closing 23 = .ok (.istore_n 3, 1) := by decide +kernel
theorem dX5_closing_24 : decode cX5_closing 24 = .ok (.aload_n 0, 1) := by decide +kernel
theorem dX5_closing_25 : decode cX5_closing 25 = .ok (.iload_n 2, 1) := by decide +kernel
theorem dX5_closing_26 : decode cX5_closing 26 = .ok (.invokevirtual 74, 3) := by decide +kernel
theorem dX5_closing_29 : decode cX5_closing 29 = .ok (.ifCond .lt 39, 3) := by decide +kernel
theorem dX5_closing_32 : decode cX5_closing 32 = .ok (.iload_n 2, 1) := by decide +kernel
theorem dX5_closing_33 : decode cX5_closing 33 = .ok (.iload_n 3, 1) := by decide +kernel
theorem dX5_closing_34 : decode cX5_closing 34 = .ok (.if_icmp .eq 13, 3) := by decide +kernel
theorem dX5_closing_37 : decode cX5_closing 37 = .ok (.aload_n 0, 1) := by decide +kernel
theorem dX5_closing_38 : decode cX5_closing 38 = .ok (.iload_n 2, 1) := by decide +kernel
theorem dX5_closing_39 : decode cX5_closing 39 = .ok (.invokevirtual 74, 3) := by decide +kernel
theorem dX5_closing_42 : decode cX5_closing 42 = .ok (.bipush 93, 2) := by decide +kernel
theorem dX5_closing_44 : decode cX5_closing 44 = .ok (.if_icmp .eq 24, 3) := by decide +kernel
theorem dX5_closing_47 : decode cX5_closing 47 = .ok (.iload_n 2, 1) := by decide +kernel
theorem dX5_closing_48 : decode cX5_closing 48 = .ok (.aload_n 0, 1) := by decide +kernel
theorem dX5_closing_49 : decode cX5_closing 49 = .ok (.iload_n 2, 1) := by decide +kernel
theorem dX5_closing_50 : decode cX5_closing 50 = .ok (.invokevirtual 74, 3) := by decide +kernel
theorem dX5_closing_53 : decode cX5_closing 53 = .ok (.bipush 37, 2) := by decide +kernel
theorem dX5_closing_55 : decode cX5_closing 55 = .ok (.if_icmp .ne 7, 3) := by decide +kernel
theorem dX5_closing_58 : decode cX5_closing 58 = .ok (.iconst 2, 1) := by decide +kernel
theorem dX5_closing_59 : decode cX5_closing 59 = .ok (.goto 4, 3) := by decide +kernel
theorem dX5_closing_62 : decode cX5_closing 62 = .ok (.iconst 1, 1) := by decide +kernel
theorem dX5_closing_63 : decode cX5_closing 63 = .ok (.iadd, 1) := by decide +kernel
theorem dX5_closing_64 : decode cX5_closing 64 = .ok (.istore_n 2, 1) := by decide +kernel
theorem dX5_closing_65 : decode cX5_closing 65 = .ok (.goto (-41), 3) := by decide +kernel
theorem dX5_closing_68 : decode cX5_closing 68 = .ok (.aload_n 0, 1) := by decide +kernel
theorem dX5_closing_69 : decode cX5_closing 69 = .ok (.iload_n 2, 1) := by decide +kernel
theorem dX5_closing_70 : decode cX5_closing 70 = .ok (.invokevirtual 74, 3) := by decide +kernel
theorem dX5_closing_73 : decode cX5_closing 73 = .ok (.ifCond .ge 7, 3) := by decide +kernel
theorem dX5_closing_76 : decode cX5_closing 76 = .ok (.iconst (-1), 1) := by decide +kernel
theorem dX5_closing_77 : decode cX5_closing 77 = .ok (.goto 4, 3) := by decide +kernel
theorem dX5_closing_80 : decode cX5_closing 80 = .ok (.iload_n 2, 1) := by decide +kernel
theorem dX5_closing_81 : decode cX5_closing 81 = .ok (.ireturn, 1) := by decide +kernel
theorem dX5_setHas_0 : decode cX5_setHas 0 = .ok (.aload_n 0, 1) := by decide +kernel
theorem dX5_setHas_1 : decode cX5_setHas 1 = .ok (.iload_n 1, 1) := by decide +kernel
theorem dX5_setHas_2 : decode cX5_setHas 2 = .ok (.iconst 1, 1) := by decide +kernel
theorem dX5_setHas_3 : decode cX5_setHas 3 = .ok (.iadd, 1) := by decide +kernel
theorem dX5_setHas_4 : decode cX5_setHas 4 = .ok (.invokevirtual 74, 3) := by decide +kernel
theorem dX5_setHas_7 : decode cX5_setHas 7 = .ok (.bipush 94, 2) := by decide +kernel
theorem dX5_setHas_9 : decode cX5_setHas 9 = .ok (.if_icmp .ne 7, 3) := by decide +kernel
theorem dX5_setHas_12 : decode cX5_setHas 12 = .ok (.iconst 1, 1) := by decide +kernel
theorem dX5_setHas_13 : decode cX5_setHas 13 = .ok (.goto 4, 3) := by decide +kernel
theorem dX5_setHas_16 : decode cX5_setHas 16 = .ok (.iconst 0, 1) := by decide +kernel
theorem dX5_setHas_17 : decode cX5_setHas 17 = .ok (.istore 4, 2) := by decide +kernel
theorem dX5_setHas_19 : decode cX5_setHas 19 = .ok (.iload 4, 2) := by decide +kernel
theorem dX5_setHas_21 : decode cX5_setHas 21 = .ok (.ifCond .eq 9, 3) := by decide +kernel
theorem dX5_setHas_24 : decode cX5_setHas 24 = .ok (.iload_n 1, 1) := by decide +kernel
theorem dX5_setHas_25 : decode cX5_setHas 25 = .ok (.iconst 2, 1) := by decide +kernel
theorem dX5_setHas_26 : decode cX5_setHas 26 = .ok (.iadd, 1) := by decide +kernel
theorem dX5_setHas_27 : decode cX5_setHas 27 = .ok (.goto 6, 3) := by decide +kernel
theorem dX5_setHas_30 : decode cX5_setHas 30 = .ok (.iload_n 1, 1) := by decide +kernel
theorem dX5_setHas_31 : decode cX5_setHas 31 = .ok (.iconst 1, 1) := by decide +kernel
theorem dX5_setHas_32 : decode cX5_setHas 32 = .ok (.iadd, 1) := by decide +kernel
theorem dX5_setHas_33 : decode cX5_setHas 33 = .ok (.istore 5, 2) := by decide +kernel
theorem dX5_setHas_35 : decode cX5_setHas 35 = .ok (.iconst 0, 1) := by decide +kernel
theorem dX5_setHas_36 : decode cX5_setHas 36 = .ok (.istore 6, 2) := by decide +kernel
theorem dX5_setHas_38 : decode cX5_setHas 38 = .ok (.iload 5, 2) := by decide +kernel
theorem dX5_setHas_40 : decode cX5_setHas 40 = .ok (.iload_n 2, 1) := by decide +kernel
theorem dX5_setHas_41 : decode cX5_setHas 41 = .ok (.if_icmp .ge 135, 3) := by decide +kernel
theorem dX5_setHas_44 : decode cX5_setHas 44 = .ok (.aload_n 0, 1) := by decide +kernel
theorem dX5_setHas_45 : decode cX5_setHas 45 = .ok (.iload 5, 2) := by decide +kernel
theorem dX5_setHas_47 : decode cX5_setHas 47 = .ok (.invokevirtual 74, 3) := by decide +kernel
theorem dX5_setHas_50 : decode cX5_setHas 50 = .ok (.bipush 37, 2) := by decide +kernel
theorem dX5_setHas_52 : decode cX5_setHas 52 = .ok (.if_icmp .ne 36, 3) := by decide +kernel
theorem dX5_setHas_55 : decode cX5_setHas 55 = .ok (.iload 6, 2) := by decide +kernel
theorem dX5_setHas_57 : decode cX5_setHas 57 = .ok (.ifCond .ne 18, 3) := by decide +kernel
theorem dX5_setHas_60 : decode cX5_setHas 60 = .ok (.aload_n 0, 1) := by decide +kernel
theorem dX5_setHas_61 : decode cX5_setHas 61 = .ok (.iload 5, 2) := by decide +kernel
theorem dX5_setHas_63 : decode cX5_setHas 63 = .ok (.iconst 1, 1) := by decide +kernel
theorem dX5_setHas_64 : decode cX5_setHas 64 = .ok (.iadd, 1) := by decide +kernel
theorem dX5_setHas_65 : decode cX5_setHas 65 = .ok (.invokevirtual 74, 3) := by decide +kernel
theorem dX5_setHas_68 : decode cX5_setHas 68 = .ok (.iload_n 3, 1) := by decide +kernel
theorem dX5_setHas_69 : decode cX5_setHas 69 = .ok (.invokestatic 77, 3) := by decide +kernel
theorem dX5_setHas_72 : decode cX5_setHas 72 = .ok (.ifCond .eq 7, 3) := by decide +kernel
theorem dX5_setHas_75 : decode cX5_setHas 75 = .ok (.iconst 1, 1) := by decide +kernel
theorem dX5_setHas_76 : decode cX5_setHas 76 = .ok (.goto 4, 3) := by decide +kernel
theorem dX5_setHas_79 : decode cX5_setHas 79 = .ok (.iconst 0, 1) := by decide +kernel
theorem dX5_setHas_80 : decode cX5_setHas 80 = .ok (.istore 6, 2) := by decide +kernel
theorem dX5_setHas_82 : decode cX5_setHas 82 = .ok (.iinc 5 2, 3) := by decide +kernel
theorem dX5_setHas_85 : decode cX5_setHas 85 = .ok (.goto (-47), 3) := by decide +kernel
theorem dX5_setHas_88 : decode cX5_setHas 88 = .ok (.iload 5, 2) := by decide +kernel
theorem dX5_setHas_90 : decode cX5_setHas 90 = .ok (.iconst 2, 1) := by decide +kernel
theorem dX5_setHas_91 : decode cX5_setHas 91 = .ok (.iadd, 1) := by decide +kernel
theorem dX5_setHas_92 : decode cX5_setHas 92 = .ok (.iload_n 2, 1) := by decide +kernel
theorem dX5_setHas_93 : decode cX5_setHas 93 = .ok (.if_icmp .ge 55, 3) := by decide +kernel
theorem dX5_setHas_96 : decode cX5_setHas 96 = .ok (.aload_n 0, 1) := by decide +kernel
theorem dX5_setHas_97 : decode cX5_setHas 97 = .ok (.iload 5, 2) := by decide +kernel
theorem dX5_setHas_99 : decode cX5_setHas 99 = .ok (.iconst 1, 1) := by decide +kernel
theorem dX5_setHas_100 : decode cX5_setHas 100 = .ok (.iadd, 1) := by decide +kernel
theorem dX5_setHas_101 : decode cX5_setHas 101 = .ok (.invokevirtual 74, 3) := by decide +kernel
theorem dX5_setHas_104 : decode cX5_setHas 104 = .ok (.bipush 45, 2) := by decide +kernel
theorem dX5_setHas_106 : decode cX5_setHas 106 = .ok (.if_icmp .ne 42, 3) := by decide +kernel
theorem dX5_setHas_109 : decode cX5_setHas 109 = .ok (.iload 6, 2) := by decide +kernel
theorem dX5_setHas_111 : decode cX5_setHas 111 = .ok (.ifCond .ne 24, 3) := by decide +kernel
theorem dX5_setHas_114 : decode cX5_setHas 114 = .ok (.iload_n 3, 1) := by decide +kernel
theorem dX5_setHas_115 : decode cX5_setHas 115 = .ok (.aload_n 0, 1) := by decide +kernel
theorem dX5_setHas_116 : decode cX5_setHas 116 = .ok (.iload 5, 2) := by decide +kernel
theorem dX5_setHas_118 : decode cX5_setHas 118 = .ok (.invokevirtual 74, 3) := by decide +kernel
theorem dX5_setHas_121 : decode cX5_setHas 121 = .ok (.aload_n 0, 1) := by decide +kernel
theorem dX5_setHas_122 : decode cX5_setHas 122 = .ok (.iload 5, 2) := by decide +kernel
theorem dX5_setHas_124 : decode cX5_setHas 124 = .ok (.iconst 2, 1) := by decide +kernel
theorem dX5_setHas_125 : decode cX5_setHas 125 = .ok (.iadd, 1) := by decide +kernel
theorem dX5_setHas_126 : decode cX5_setHas 126 = .ok (.invokevirtual 74, 3) := by decide +kernel
theorem dX5_setHas_129 : decode cX5_setHas 129 = .ok (.invokestatic 63, 3) := by decide +kernel
theorem dX5_setHas_132 : decode cX5_setHas 132 = .ok (.ifCond .eq 7, 3) := by decide +kernel
theorem dX5_setHas_135 : decode cX5_setHas 135 = .ok (.iconst 1, 1) := by decide +kernel
theorem dX5_setHas_136 : decode cX5_setHas 136 = .ok (.goto 4, 3) := by decide +kernel
theorem dX5_setHas_139 : decode cX5_setHas 139 = .ok (.iconst 0, 1) := by decide +kernel
theorem dX5_setHas_140 : decode cX5_setHas 140 = .ok (.istore 6, 2) := by decide +kernel
theorem dX5_setHas_142 : decode cX5_setHas 142 = .ok (.iinc 5 3, 3) := by decide +kernel
theorem dX5_setHas_145 : decode cX5_setHas 145 = .ok (.goto (-107), 3) := by decide +kernel
theorem dX5_setHas_148 : decode cX5_setHas 148 = .ok (.iload 6, 2) := by decide +kernel
theorem dX5_setHas_150 : decode cX5_setHas 150 = .ok (.ifCond .ne 13, 3) := by decide +kernel
theorem dX5_setHas_153 : decode cX5_setHas 153 = .ok (.aload_n 0, 1) := by decide +kernel
theorem dX5_setHas_154 : decode cX5_setHas 154 = .ok (.iload 5, 2) := by decide +kernel
theorem dX5_setHas_156 : decode cX5_setHas 156 = .ok (.invokevirtual 74, 3) := by decide +kernel
theorem dX5_setHas_159 : decode cX5_setHas 159 = .ok (.iload_n 3, 1) := by decide +kernel
theorem dX5_setHas_160 : decode cX5_setHas 160 = .ok (.if_icmp .ne 7, 3) := by decide +kernel
theorem dX5_setHas_163 : decode cX5_setHas 163 = .ok (.iconst 1, 1) := by decide +kernel
theorem dX5_setHas_164 : decode cX5_setHas 164 = .ok (.goto 4, 3) := by decide +kernel
theorem dX5_setHas_167 : decode cX5_setHas 167 = .ok (.iconst 0, 1) := by decide +kernel
theorem dX5_setHas_168 : decode cX5_setHas 168 = .ok (.istore 6, 2) := by decide +kernel
theorem dX5_setHas_170 : decode cX5_setHas 170 = .ok (.iinc 5 1, 3) := by decide +kernel
theorem dX5_setHas_173 : decode cX5_setHas 173 = .ok (.goto (-135), 3) := by decide +kernel
theorem dX5_setHas_176 : decode cX5_setHas 176 = .ok (.iload 6, 2) := by decide +kernel
theorem dX5_setHas_178 : decode cX5_setHas 178 = .ok (.iload 4, 2) := by decide +kernel
theorem dX5_setHas_180 : decode cX5_setHas 180 = .ok (.if_icmp .eq 7, 3) := by decide +kernel
theorem dX5_setHas_183 : decode cX5_setHas 183 = .ok (.iconst 1, 1) := by decide +kernel
theorem dX5_setHas_184 : decode cX5_setHas 184 = .ok (.goto 4, 3) := by decide +kernel
theorem dX5_setHas_187 : decode cX5_setHas 187 = .ok (.iconst 0, 1) := by decide +kernel
theorem dX5_setHas_188 : decode cX5_setHas 188 = .ok (.ireturn, 1) := by decide +kernel
theorem dX5_behindSingle_0 : decode cX5_behindSingle 0 = .ok (.aload_n 0, 1) := by decide +kernel
theorem dX5_behindSingle_1 : decode cX5_behindSingle 1 = .ok (.iload_n 1, 1) := by decide +kernel
theorem dX5_behindSingle_2 : decode cX5_behindSingle 2 = .ok (.invokevirtual 74, 3) := by decide +kernel
theorem dX5_behindSingle_5 : decode cX5_behindSingle 5 = .ok (.bipush 91, 2) := by decide +kernel
theorem dX5_behindSingle_7 : decode cX5_behindSingle 7 = .ok (.if_icmp .ne 23, 3) := by decide +kernel
theorem dX5_behindSingle_10 : decode cX5_behindSingle 10 = .ok (.aload_n 0, 1) := by decide +kernel
theorem dX5_behindSingle_11 : decode cX5_behindSingle 11 = .ok (.iload_n 1, 1) := by decide +kernel
theorem dX5_behindSingle_12 : decode cX5_behindSingle 12 = .ok (.invokevirtual 81, 3) := by decide +kernel
theorem dX5_behindSingle_15 : decode cX5_behindSingle 15 = .ok (.ifCond .ge 7, 3) := by decide +kernel
theorem dX5_behindSingle_18 : decode cX5_behindSingle 18 = .ok (.iconst (-1), 1) := by decide +kernel
theorem dX5_behindSingle_19 : decode cX5_behindSingle 19 = .ok (.goto 10, 3) := by decide +kernel
theorem dX5_behindSingle_22 : decode cX5_behindSingle 22 = .ok (.aload_n 0, 1) := by decide +kernel
theorem dX5_behindSingle_23 : decode cX5_behindSingle 23 = .ok (.iload_n 1, 1) := by decide +kernel
theorem dX5_behindSingle_24 : decode cX5_behindSingle 24 = .ok (.invokevirtual 81, 3) := by decide +kernel
theorem dX5_behindSingle_27 : decode cX5_behindSingle 27 = .ok (.iconst 1, 1) := by decide +kernel
theorem dX5_behindSingle_28 : decode cX5_behindSingle 28 = .ok (.iadd, 1) := by decide +kernel
theorem dX5_behindSingle_29 : decode cX5_behindSingle 29 = .ok (.ireturn, 1) := by decide +kernel
theorem dX5_behindSingle_30 : decode cX5_behindSingle 30 = .ok (.aload_n 0, 1) := by decide +kernel
theorem dX5_behindSingle_31 : decode cX5_behindSingle 31 = .ok (.iload_n 1, 1) := by decide +kernel
theorem dX5_behindSingle_32 : decode cX5_behindSingle 32 = .ok (.invokevirtual 74, 3) := by decide +kernel
theorem dX5_behindSingle_35 : decode cX5_behindSingle 35 = .ok (.bipush 37, 2) := by decide +kernel
theorem dX5_behindSingle_37 : decode cX5_behindSingle 37 = .ok (.if_icmp .eq 7, 3) := by decide +kernel
theorem dX5_behindSingle_40 : decode cX5_behindSingle 40 = .ok (.iload_n 1, 1) := by decide +kernel
theorem dX5_behindSingle_41 : decode cX5_behindSingle 41 = .ok (.iconst 1, 1) := by decide +kernel
theorem dX5_behindSingle_42 : decode cX5_behindSingle 42 = .ok (.iadd, 1) := by decide +kernel
theorem dX5_behindSingle_43 : decode cX5_behindSingle 43 = .ok (.ireturn, 1) := by decide +kernel
theorem dX5_behindSingle_44 : decode cX5_behindSingle 44 = .ok (.aload_n 0, 1) := by decide +kernel
theorem dX5_behindSingle_45 : decode cX5_behindSingle 45 = .ok (.iload_n 1, 1) := by decide +kernel
theorem dX5_behindSingle_46 : decode cX5_behindSingle 46 = .ok (.iconst 1, 1) := by decide +kernel
theorem dX5_behindSingle_47 : decode cX5_behindSingle 47 = .ok (.iadd, 1) := by decide +kernel
theorem dX5_behindSingle_48 : decode cX5_behindSingle 48 = .ok (.invokevirtual 74, 3) := by decide +kernel
theorem dX5_behindSingle_51 : decode cX5_behindSingle 51 = .ok (.ifCond .ge 7, 3) := by decide +kernel
theorem dX5_behindSingle_54 : decode cX5_behindSingle 54 = .ok (.iconst (-1), 1) := by decide +kernel
theorem dX5_behindSingle_55 : decode cX5_behindSingle 55 = .ok (.goto 6, 3) := by decide +kernel
theorem dX5_behindSingle_58 : decode cX5_behindSingle 58 = .ok (.iload_n 1, 1) := by decide +kernel
theorem dX5_behindSingle_59 : decode cX5_behindSingle 59 = .ok (.iconst 2, 1) := by decide +kernel
theorem dX5_behindSingle_60 : decode cX5_behindSingle 60 = .ok (.iadd, 1) := by decide +kernel
theorem dX5_behindSingle_61 : decode cX5_behindSingle 61 = .ok (.ireturn, 1) := by decide +kernel
theorem dX5_singleHas_0 : decode cX5_singleHas 0 = .ok (.aload_n 0, 1) := by decide +kernel
theorem dX5_singleHas_1 : decode cX5_singleHas 1 = .ok (.iload_n 1, 1) := by decide +kernel
theorem dX5_singleHas_2 : decode cX5_singleHas 2 = .ok (.invokevirtual 74, 3) := by decide +kernel
theorem dX5_singleHas_5 : decode cX5_singleHas 5 = .ok (.istore_n 3, 1) := by decide +kernel
theorem dX5_singleHas_6 : decode cX5_singleHas 6 = .ok (.iload_n 3, 1) := by decide +kernel
theorem dX5_singleHas_7 : decode cX5_singleHas 7 = .ok (.bipush 46, 2) := by decide +kernel
theorem dX5_singleHas_9 : decode cX5_singleHas 9 = .ok (.if_icmp .ne 5, 3) := by decide +kernel
theorem dX5_singleHas_12 : decode cX5_singleHas 12 = .ok (.iconst 1, 1) := by decide +kernel
theorem dX5_singleHas_13 : decode cX5_singleHas 13 = .ok (.ireturn, 1) := by decide +kernel
theorem dX5_singleHas_14 : decode cX5_singleHas 14 = .ok (.iload_n 3, 1) := by decide +kernel
theorem dX5_singleHas_15 : decode cX5_singleHas 15 = .ok (.bipush 91, 2) := by decide +kernel
theorem dX5_singleHas_17 : decode cX5_singleHas 17 = .ok (.if_icmp .ne 15, 3) := by decide +kernel
theorem dX5_singleHas_20 : decode cX5_singleHas 20 = .ok (.aload_n 0, 1) := by decide +kernel
theorem dX5_singleHas_21 : decode cX5_singleHas 21 = .ok (.iload_n 1, 1) := by decide +kernel
theorem dX5_singleHas_22 : decode cX5_singleHas 22 = .ok (.aload_n 0, 1) := by decide +kernel
theorem dX5_singleHas_23 : decode cX5_singleHas 23 = .ok (.iload_n 1, 1) := by decide +kernel
theorem dX5_singleHas_24 : decode cX5_singleHas 24 = .ok (.invokevirtual 81, 3) := by decide +kernel
theorem dX5_singleHas_27 : decode cX5_singleHas 27 = .ok (.iload_n 2, 1) := by decide +kernel
theorem dX5_singleHas_28 : decode cX5_singleHas 28 = .ok (.invokevirtual 84, 3) := by decide +kernel
theorem dX5_singleHas_31 : decode cX5_singleHas 31 = .ok (.ireturn, 1) := by decide +kernel
theorem dX5_singleHas_32 : decode cX5_singleHas 32 = .ok (.iload_n 3, 1) := by decide +kernel
theorem dX5_singleHas_33 : decode cX5_singleHas 33 = .ok (.bipush 37, 2) := by decide +kernel
theorem dX5_singleHas_35 : decode cX5_singleHas 35 = .ok (.if_icmp .ne 17, 3) := by decide +kernel
theorem dX5_singleHas_38 : decode cX5_singleHas 38 = .ok (.aload_n 0, 1) := by decide +kernel
theorem dX5_singleHas_39 : decode cX5_singleHas 39 = .ok (.iload_n 1, 1) := by decide +kernel
theorem dX5_singleHas_40 : decode cX5_singleHas 40 = .ok (.iconst 1, 1) := by decide +kernel
theorem dX5_singleHas_41 : decode cX5_singleHas 41 = .ok (.iadd, 1) := by decide +kernel
theorem dX5_singleHas_42 : decode cX5_singleHas 42 = .ok (.invokevirtual 74, 3) := by decide +kernel
theorem dX5_singleHas_45 : decode cX5_singleHas 45 = .ok (.iload_n 2, 1) := by decide +kernel
theorem dX5_singleHas_46 : decode cX5_singleHas 46 = .ok (.invokestatic 77, 3) := by decide +kernel
theorem dX5_singleHas_49 : decode cX5_singleHas 49 = .ok (.goto 13, 3) := by decide +kernel
theorem dX5_singleHas_52 : decode cX5_singleHas 52 = .ok (.iload_n 3, 1) := by decide +kernel
theorem dX5_singleHas_53 : decode cX5_singleHas 53 = .ok (.iload_n 2, 1) := by decide +kernel
theorem dX5_singleHas_54 : decode cX5_singleHas 54 = .ok (.if_icmp .ne 7, 3) := by decide +kernel
theorem dX5_singleHas_57 : decode cX5_singleHas 57 = .ok (.iconst 1, 1) := by decide +kernel
theorem dX5_singleHas_58 : decode cX5_singleHas 58 = .ok (.goto 4, 3) := by decide +kernel
theorem dX5_singleHas_61 : decode cX5_singleHas 61 = .ok (.iconst 0, 1) := by decide +kernel
theorem dX5_singleHas_62 : decode cX5_singleHas 62 = .ok (.ireturn, 1) := by decide +kernel
theorem dX5_look_0 : decode cX5_look 0 = .ok (.aload_n 0, 1) := by decide +kernel
theorem dX5_look_1 : decode cX5_look 1 = .ok (.getfield 87, 3) := by decide +kernel
theorem dX5_look_4 : decode cX5_look 4 = .ok (.ldc 90, 2) := by decide +kernel
theorem dX5_look_6 : decode cX5_look 6 = .ok (.if_icmp .ne 11, 3) := by decide +kernel
theorem dX5_look_9 : decode cX5_look 9 = .ok (.aload_n 0, 1) := by decide +kernel
theorem dX5_look_10 : decode cX5_look 10 = .ok (.bipush (-4), 2) := by decide +kernel
theorem dX5_look_12 : decode cX5_look 12 = .ok (.putfield 91, 3) := by decide +kernel
theorem dX5_look_15 : decode cX5_look 15 = .ok (.iconst 0, 1) := by decide +kernel
theorem dX5_look_16 : decode cX5_look 16 = .ok (.ireturn, 1) := by decide +kernel
theorem dX5_look_17 : decode cX5_look 17 = .ok (.aload_n 0, 1) := by decide +kernel
theorem dX5_look_18 : decode cX5_look 18 = .ok (.dup, 1) := by decide +kernel
theorem dX5_look_19 : decode cX5_look 19 = .ok (.getfield 87, 3) := by decide +kernel
theorem dX5_look_22 : decode cX5_look 22 = .ok (.iconst 1, 1) := by decide +kernel
theorem dX5_look_23 : decode cX5_look 23 = .ok (.iadd, 1) := by decide +kernel
theorem dX5_look_24 : decode cX5_look 24 = .ok (.putfield 87, 3) := by decide +kernel
theorem dX5_look_27 : decode cX5_look 27 = .ok (.iconst 1, 1) := by decide +kernel
theorem dX5_look_28 : decode cX5_look 28 = .ok (.ireturn, 1) := by decide +kernel
theorem dX5_isThere_0 : decode cX5_isThere 0 = .ok (.iload_n 2, 1) := by decide +kernel
theorem dX5_isThere_1 : decode cX5_isThere 1 = .ok (.aload_n 0, 1) := by decide +kernel
theorem dX5_isThere_2 : decode cX5_isThere 2 = .ok (.getfield 13, 3) := by decide +kernel
theorem dX5_isThere_5 : decode cX5_isThere 5 = .ok (.iconst 0, 1) := by decide +kernel
theorem dX5_isThere_6 : decode cX5_isThere 6 = .ok (.iaload, 1) := by decide +kernel
theorem dX5_isThere_7 : decode cX5_isThere 7 = .ok (.if_icmp .ge 28, 3) := by decide +kernel
theorem dX5_isThere_10 : decode cX5_isThere 10 = .ok (.aload_n 0, 1) := by decide +kernel
theorem dX5_isThere_11 : decode cX5_isThere 11 = .ok (.invokevirtual 94, 3) := by decide +kernel
theorem dX5_isThere_14 : decode cX5_isThere 14 = .ok (.ifCond .eq 21, 3) := by decide +kernel
theorem dX5_isThere_17 : decode cX5_isThere 17 = .ok (.aload_n 0, 1) := by decide +kernel
theorem dX5_isThere_18 : decode cX5_isThere 18 = .ok (.iload_n 1, 1) := by decide +kernel
theorem dX5_isThere_19 : decode cX5_isThere 19 = .ok (.aload_n 0, 1) := by decide +kernel
theorem dX5_isThere_20 : decode cX5_isThere 20 = .ok (.iconst 0, 1) := by decide +kernel
theorem dX5_isThere_21 : decode cX5_isThere 21 = .ok (.iload_n 2, 1) := by decide +kernel
theorem dX5_isThere_22 : decode cX5_isThere 22 = .ok (.invokevirtual 59, 3) := by decide +kernel
theorem dX5_isThere_25 : decode cX5_isThere 25 = .ok (.invokevirtual 98, 3) := by decide +kernel
theorem dX5_isThere_28 : decode cX5_isThere 28 = .ok (.ifCond .eq 7, 3) := by decide +kernel
theorem dX5_isThere_31 : decode cX5_isThere 31 = .ok (.iconst 1, 1) := by decide +kernel
theorem dX5_isThere_32 : decode cX5_isThere 32 = .ok (.goto 4, 3) := by decide +kernel
theorem dX5_isThere_35 : decode cX5_isThere 35 = .ok (.iconst 0, 1) := by decide +kernel
theorem dX5_isThere_36 : decode cX5_isThere 36 = .ok (.ireturn, 1) := by decide +kernel
theorem dX5_settle_0 : decode cX5_settle 0 = .ok (.aload_n 0, 1) := by decide +kernel
theorem dX5_settle_1 : decode cX5_settle 1 = .ok (.getfield 26, 3) := by decide +kernel
theorem dX5_settle_4 : decode cX5_settle 4 = .ok (.aload_n 0, 1) := by decide +kernel
theorem dX5_settle_5 : decode cX5_settle 5 = .ok (.getfield 108, 3) := by decide +kernel
theorem dX5_settle_8 : decode cX5_settle 8 = .ok (.iload_n 1, 1) := by decide +kernel
theorem dX5_settle_9 : decode cX5_settle 9 = .ok (.iastore, 1) := by decide +kernel
theorem dX5_settle_10 : decode cX5_settle 10 = .ok (.aload_n 0, 1) := by decide +kernel
theorem dX5_settle_11 : decode cX5_settle 11 = .ok (.getfield 29, 3) := by decide +kernel
theorem dX5_settle_14 : decode cX5_settle 14 = .ok (.aload_n 0, 1) := by decide +kernel
theorem dX5_settle_15 : decode cX5_settle 15 = .ok (.getfield 108, 3) := by decide +kernel
theorem dX5_settle_18 : decode cX5_settle 18 = .ok (.iload_n 2, 1) := by decide +kernel
theorem dX5_settle_19 : decode cX5_settle 19 = .ok (.iastore, 1) := by decide +kernel
theorem dX5_settle_20 : decode cX5_settle 20 = .ok (.iload_n 3, 1) := by decide +kernel
theorem dX5_settle_21 : decode cX5_settle 21 = .ok (.ireturn, 1) := by decide +kernel
theorem dX5_wrong_0 : decode cX5_wrong 0 = .ok (.aload_n 0, 1) := by decide +kernel
theorem dX5_wrong_1 : decode cX5_wrong 1 = .ok (.bipush (-2), 2) := by decide +kernel
theorem dX5_wrong_3 : decode cX5_wrong 3 = .ok (.putfield 91, 3) := by decide +kernel
theorem dX5_wrong_6 : decode cX5_wrong 6 = .ok (.iconst (-1), 1) := by decide +kernel
theorem dX5_wrong_7 : decode cX5_wrong 7 = .ok (.ireturn, 1) := by decide +kernel
theorem dX5_lastOpen_0 : decode cX5_lastOpen 0 = .ok (.aload_n 0, 1) := by decide +kernel
theorem dX5_lastOpen_1 : decode cX5_lastOpen 1 = .ok (.getfield 101, 3) := by decide +kernel
theorem dX5_lastOpen_4 : decode cX5_lastOpen 4 = .ok (.iconst 1, 1) := by decide +kernel
theorem dX5_lastOpen_5 : decode cX5_lastOpen 5 = .ok (.isub, 1) := by decide +kernel
theorem dX5_lastOpen_6 : decode cX5_lastOpen 6 = .ok (.istore_n 1, 1) := by decide +kernel
theorem dX5_lastOpen_7 : decode cX5_lastOpen 7 = .ok (.iload_n 1, 1) := by decide +kernel
theorem dX5_lastOpen_8 : decode cX5_lastOpen 8 = .ok (.ifCond .lt 20, 3) := by decide +kernel
theorem dX5_lastOpen_11 : decode cX5_lastOpen 11 = .ok (.aload_n 0, 1) := by decide +kernel
theorem dX5_lastOpen_12 : decode cX5_lastOpen 12 = .ok (.getfield 41, 3) := by decide +kernel
theorem dX5_lastOpen_15 : decode cX5_lastOpen 15 = .ok (.iload_n 1, 1) := by decide +kernel
theorem dX5_lastOpen_16 : decode cX5_lastOpen 16 = .ok (.iaload, 1) := by decide +kernel
theorem dX5_lastOpen_17 : decode cX5_lastOpen 17 = .ok (.bipush (-2), 2) := by decide +kernel
theorem dX5_lastOpen_19 : decode cX5_lastOpen 19 = .ok (.if_icmp .eq 9, 3) := by decide +kernel
theorem dX5_lastOpen_22 : decode cX5_lastOpen 22 = .ok (.iinc 1 (-1), 3) := by decide +kernel
theorem dX5_lastOpen_25 : decode cX5_lastOpen 25 = .ok (.goto (-18), 3) := by decide +kernel
theorem dX5_lastOpen_28 : decode cX5_lastOpen 28 = .ok (.iload_n 1, 1) := by decide +kernel
theorem dX5_lastOpen_29 : decode cX5_lastOpen 29 = .ok (.ireturn, 1) := by decide +kernel
theorem dX5_clear_0 : decode cX5_clear 0 = .ok (.iload_n 1, 1) := by decide +kernel
theorem dX5_clear_1 : decode cX5_clear 1 = .ok (.ifCond .lt 8, 3) := by decide +kernel
theorem dX5_clear_4 : decode cX5_clear 4 = .ok (.iload_n 1, 1) := by decide +kernel
theorem dX5_clear_5 : decode cX5_clear 5 = .ok (.iconst 2, 1) := by decide +kernel
theorem dX5_clear_6 : decode cX5_clear 6 = .ok (.if_icmp .le 5, 3) := by decide +kernel
theorem dX5_clear_9 : decode cX5_clear 9 = .ok (.iconst (-1), 1) := by decide +kernel
theorem dX5_clear_10 : decode cX5_clear 10 = .ok (.ireturn, 1) := by decide +kernel
theorem dX5_clear_11 : decode cX5_clear 11 = .ok (.aload_n 0, 1) := by decide +kernel
theorem dX5_clear_12 : decode cX5_clear 12 = .ok (.getfield 13, 3) := by decide +kernel
theorem dX5_clear_15 : decode cX5_clear 15 = .ok (.iload_n 1, 1) := by decide +kernel
theorem dX5_clear_16 : decode cX5_clear 16 = .ok (.iaload, 1) := by decide +kernel
theorem dX5_clear_17 : decode cX5_clear 17 = .ok (.istore_n 2, 1) := by decide +kernel
theorem dX5_clear_18 : decode cX5_clear 18 = .ok (.aload_n 0, 1) := by decide +kernel
theorem dX5_clear_19 : decode cX5_clear 19 = .ok (.getfield 13, 3) := by decide +kernel
theorem dX5_clear_22 : decode cX5_clear 22 = .ok (.iload_n 1, 1) := by decide +kernel
theorem dX5_clear_23 : decode cX5_clear 23 = .ok (.iconst 0, 1) := by decide +kernel
theorem dX5_clear_24 : decode cX5_clear 24 = .ok (.iastore, 1) := by decide +kernel
theorem dX5_clear_25 : decode cX5_clear 25 = .ok (.aload_n 0, 1) := by decide +kernel
theorem dX5_clear_26 : decode cX5_clear 26 = .ok (.iconst 0, 1) := by decide +kernel
theorem dX5_clear_27 : decode cX5_clear 27 = .ok (.putfield 55, 3) := by decide +kernel
theorem dX5_clear_30 : decode cX5_clear 30 = .ok (.iload_n 2, 1) := by decide +kernel
theorem dX5_clear_31 : decode cX5_clear 31 = .ok (.ireturn, 1) := by decide +kernel
theorem dX5_begin_0 : decode cX5_begin 0 = .ok (.aload_n 0, 1) := by decide +kernel
theorem dX5_begin_1 : decode cX5_begin 1 = .ok (.iconst 0, 1) := by decide +kernel
theorem dX5_begin_2 : decode cX5_begin 2 = .ok (.putfield 171, 3) := by decide +kernel
theorem dX5_begin_5 : decode cX5_begin 5 = .ok (.aload_n 0, 1) := by decide +kernel
theorem dX5_begin_6 : decode cX5_begin 6 = .ok (.iconst (-1), 1) := by decide +kernel
theorem dX5_begin_7 : decode cX5_begin 7 = .ok (.putfield 44, 3) := by decide +kernel
theorem dX5_begin_10 : decode cX5_begin 10 = .ok (.return_, 1) := by decide +kernel
theorem dX5_looks_0 : decode cX5_looks 0 = .ok (.aload_n 0, 1) := by decide +kernel
theorem dX5_looks_1 : decode cX5_looks 1 = .ok (.getfield 87, 3) := by decide +kernel
theorem dX5_looks_4 : decode cX5_looks 4 = .ok (.ireturn, 1) := by decide +kernel
theorem dX5_first_0 : decode cX5_first 0 = .ok (.aload_n 0, 1) := by decide +kernel
theorem dX5_first_1 : decode cX5_first 1 = .ok (.getfield 55, 3) := by decide +kernel
theorem dX5_first_4 : decode cX5_first 4 = .ok (.ifCond .eq 10, 3) := by decide +kernel
theorem dX5_first_7 : decode cX5_first 7 = .ok (.aload_n 0, 1) := by decide +kernel
theorem dX5_first_8 : decode cX5_first 8 = .ok (.getfield 158, 3) := by decide +kernel
theorem dX5_first_11 : decode cX5_first 11 = .ok (.goto 4, 3) := by decide +kernel
theorem dX5_first_14 : decode cX5_first 14 = .ok (.iconst (-1), 1) := by decide +kernel
theorem dX5_first_15 : decode cX5_first 15 = .ok (.ireturn, 1) := by decide +kernel
theorem dX5_last_0 : decode cX5_last 0 = .ok (.aload_n 0, 1) := by decide +kernel
theorem dX5_last_1 : decode cX5_last 1 = .ok (.getfield 55, 3) := by decide +kernel
theorem dX5_last_4 : decode cX5_last 4 = .ok (.ifCond .eq 10, 3) := by decide +kernel
theorem dX5_last_7 : decode cX5_last 7 = .ok (.aload_n 0, 1) := by decide +kernel
theorem dX5_last_8 : decode cX5_last 8 = .ok (.getfield 146, 3) := by decide +kernel
theorem dX5_last_11 : decode cX5_last 11 = .ok (.goto 4, 3) := by decide +kernel
theorem dX5_last_14 : decode cX5_last 14 = .ok (.iconst (-1), 1) := by decide +kernel
theorem dX5_last_15 : decode cX5_last 15 = .ok (.ireturn, 1) := by decide +kernel
theorem dX5_captures_0 : decode cX5_captures 0 = .ok (.aload_n 0, 1) := by decide +kernel
theorem dX5_captures_1 : decode cX5_captures 1 = .ok (.getfield 55, 3) := by decide +kernel
theorem dX5_captures_4 : decode cX5_captures 4 = .ok (.ifCond .eq 10, 3) := by decide +kernel
theorem dX5_captures_7 : decode cX5_captures 7 = .ok (.aload_n 0, 1) := by decide +kernel
theorem dX5_captures_8 : decode cX5_captures 8 = .ok (.getfield 101, 3) := by decide +kernel
theorem dX5_captures_11 : decode cX5_captures 11 = .ok (.goto 4, 3) := by decide +kernel
theorem dX5_captures_14 : decode cX5_captures 14 = .ok (.iconst (-1), 1) := by decide +kernel
theorem dX5_captures_15 : decode cX5_captures 15 = .ok (.ireturn, 1) := by decide +kernel
theorem dX5_capture_0 : decode cX5_capture 0 = .ok (.aload_n 0, 1) := by decide +kernel
theorem dX5_capture_1 : decode cX5_capture 1 = .ok (.getfield 55, 3) := by decide +kernel
theorem dX5_capture_4 : decode cX5_capture 4 = .ok (.ifCond .eq 24, 3) := by decide +kernel
theorem dX5_capture_7 : decode cX5_capture 7 = .ok (.iload_n 1, 1) := by decide +kernel
theorem dX5_capture_8 : decode cX5_capture 8 = .ok (.ifCond .lt 20, 3) := by decide +kernel
theorem dX5_capture_11 : decode cX5_capture 11 = .ok (.iload_n 1, 1) := by decide +kernel
theorem dX5_capture_12 : decode cX5_capture 12 = .ok (.aload_n 0, 1) := by decide +kernel
theorem dX5_capture_13 : decode cX5_capture 13 = .ok (.getfield 101, 3) := by decide +kernel
theorem dX5_capture_16 : decode cX5_capture 16 = .ok (.if_icmp .ge 12, 3) := by decide +kernel
theorem dX5_capture_19 : decode cX5_capture 19 = .ok (.iload_n 2, 1) := by decide +kernel
theorem dX5_capture_20 : decode cX5_capture 20 = .ok (.ifCond .lt 8, 3) := by decide +kernel
theorem dX5_capture_23 : decode cX5_capture 23 = .ok (.iload_n 2, 1) := by decide +kernel
theorem dX5_capture_24 : decode cX5_capture 24 = .ok (.iconst 1, 1) := by decide +kernel
theorem dX5_capture_25 : decode cX5_capture 25 = .ok (.if_icmp .le 5, 3) := by decide +kernel
theorem dX5_capture_28 : decode cX5_capture 28 = .ok (.iconst (-1), 1) := by decide +kernel
theorem dX5_capture_29 : decode cX5_capture 29 = .ok (.ireturn, 1) := by decide +kernel
theorem dX5_capture_30 : decode cX5_capture 30 = .ok (.iload_n 2, 1) := by decide +kernel
theorem dX5_capture_31 : decode cX5_capture 31 = .ok (.ifCond .ne 12, 3) := by decide +kernel
theorem dX5_capture_34 : decode cX5_capture 34 = .ok (.aload_n 0, 1) := by decide +kernel
theorem dX5_capture_35 : decode cX5_capture 35 = .ok (.getfield 38, 3) := by decide +kernel
theorem dX5_capture_38 : decode cX5_capture 38 = .ok (.iload_n 1, 1) := by decide +kernel
theorem dX5_capture_39 : decode cX5_capture 39 = .ok (.iaload, 1) := by decide +kernel
theorem dX5_capture_40 : decode cX5_capture 40 = .ok (.goto 9, 3) := by decide +kernel
theorem dX5_capture_43 : decode cX5_capture 43 = .ok (.aload_n 0, 1) := by decide +kernel
theorem dX5_capture_44 : decode cX5_capture 44 = .ok (.getfield 41, 3) := by decide +kernel
theorem dX5_capture_47 : decode cX5_capture 47 = .ok (.iload_n 1, 1) := by decide +kernel
theorem dX5_capture_48 : decode cX5_capture 48 = .ok (.iaload, 1) := by decide +kernel
theorem dX5_capture_49 : decode cX5_capture 49 = .ok (.ireturn, 1) := by decide +kernel
theorem dX5_size_0 : decode cX5_size 0 = .ok (.aload_n 0, 1) := by decide +kernel
theorem dX5_size_1 : decode cX5_size 1 = .ok (.getfield 174, 3) := by decide +kernel
theorem dX5_size_4 : decode cX5_size 4 = .ok (.ireturn, 1) := by decide +kernel
theorem dX5_result_0 : decode cX5_result 0 = .ok (.iload_n 1, 1) := by decide +kernel
theorem dX5_result_1 : decode cX5_result 1 = .ok (.ifCond .lt 24, 3) := by decide +kernel
theorem dX5_result_4 : decode cX5_result 4 = .ok (.iload_n 1, 1) := by decide +kernel
theorem dX5_result_5 : decode cX5_result 5 = .ok (.aload_n 0, 1) := by decide +kernel
theorem dX5_result_6 : decode cX5_result 6 = .ok (.getfield 174, 3) := by decide +kernel
theorem dX5_result_9 : decode cX5_result 9 = .ok (.if_icmp .ge 16, 3) := by decide +kernel
theorem dX5_result_12 : decode cX5_result 12 = .ok (.aload_n 0, 1) := by decide +kernel
theorem dX5_result_13 : decode cX5_result 13 = .ok (.getfield 17, 3) := by decide +kernel
theorem dX5_result_16 : decode cX5_result 16 = .ok (.iload_n 1, 1) := by decide +kernel
theorem dX5_result_17 : decode cX5_result 17 = .ok (.baload, 1) := by decide +kernel
theorem dX5_result_18 : decode cX5_result 18 = .ok (.sipush 255, 3) := by decide +kernel
theorem dX5_result_21 : decode cX5_result 21 = .ok (.iand, 1) := by decide +kernel
theorem dX5_result_22 : decode cX5_result 22 = .ok (.goto 4, 3) := by decide +kernel
theorem dX5_result_25 : decode cX5_result 25 = .ok (.iconst (-1), 1) := by decide +kernel
theorem dX5_result_26 : decode cX5_result 26 = .ok (.ireturn, 1) := by decide +kernel
theorem dX5_single_1_0 : decode cX5_single_1 0 = .ok (.iload_n 1, 1) := by decide +kernel
theorem dX5_single_1_1 : decode cX5_single_1 1 = .ok (.ifCond .lt 10, 3) := by decide +kernel
theorem dX5_single_1_4 : decode cX5_single_1 4 = .ok (.iload_n 1, 1) := by decide +kernel
theorem dX5_single_1_5 : decode cX5_single_1 5 = .ok (.sipush 255, 3) := by decide +kernel
theorem dX5_single_1_8 : decode cX5_single_1 8 = .ok (.if_icmp .le 5, 3) := by decide +kernel
theorem dX5_single_1_11 : decode cX5_single_1 11 = .ok (.iconst (-1), 1) := by decide +kernel
theorem dX5_single_1_12 : decode cX5_single_1 12 = .ok (.ireturn, 1) := by decide +kernel
theorem dX5_single_1_13 : decode cX5_single_1 13 = .ok (.aload_n 0, 1) := by decide +kernel
theorem dX5_single_1_14 : decode cX5_single_1 14 = .ok (.getfield 13, 3) := by decide +kernel
theorem dX5_single_1_17 : decode cX5_single_1 17 = .ok (.iconst 1, 1) := by decide +kernel
theorem dX5_single_1_18 : decode cX5_single_1 18 = .ok (.iaload, 1) := by decide +kernel
theorem dX5_single_1_19 : decode cX5_single_1 19 = .ok (.ifCond .eq 17, 3) := by decide +kernel
theorem dX5_single_1_22 : decode cX5_single_1 22 = .ok (.aload_n 0, 1) := by decide +kernel
theorem dX5_single_1_23 : decode cX5_single_1 23 = .ok (.iconst 0, 1) := by decide +kernel
theorem dX5_single_1_24 : decode cX5_single_1 24 = .ok (.invokevirtual 122, 3) := by decide +kernel
theorem dX5_single_1_27 : decode cX5_single_1 27 = .ok (.aload_n 0, 1) := by decide +kernel
theorem dX5_single_1_28 : decode cX5_single_1 28 = .ok (.getfield 13, 3) := by decide +kernel
theorem dX5_single_1_31 : decode cX5_single_1 31 = .ok (.iconst 1, 1) := by decide +kernel
theorem dX5_single_1_32 : decode cX5_single_1 32 = .ok (.iaload, 1) := by decide +kernel
theorem dX5_single_1_33 : decode cX5_single_1 33 = .ok (.if_icmp .eq 6, 3) := by decide +kernel
theorem dX5_single_1_36 : decode cX5_single_1 36 = .ok (.bipush (-2), 2) := by decide +kernel
theorem dX5_single_1_38 : decode cX5_single_1 38 = .ok (.ireturn, 1) := by decide +kernel
theorem dX5_single_1_39 : decode cX5_single_1 39 = .ok (.aload_n 0, 1) := by decide +kernel
theorem dX5_single_1_40 : decode cX5_single_1 40 = .ok (.iconst 0, 1) := by decide +kernel
theorem dX5_single_1_41 : decode cX5_single_1 41 = .ok (.iload_n 1, 1) := by decide +kernel
theorem dX5_single_1_42 : decode cX5_single_1 42 = .ok (.invokevirtual 98, 3) := by decide +kernel
theorem dX5_single_1_45 : decode cX5_single_1 45 = .ok (.ifCond .eq 7, 3) := by decide +kernel
theorem dX5_single_1_48 : decode cX5_single_1 48 = .ok (.iconst 1, 1) := by decide +kernel
theorem dX5_single_1_49 : decode cX5_single_1 49 = .ok (.goto 4, 3) := by decide +kernel
theorem dX5_single_1_52 : decode cX5_single_1 52 = .ok (.iconst 0, 1) := by decide +kernel
theorem dX5_single_1_53 : decode cX5_single_1 53 = .ok (.ireturn, 1) := by decide +kernel
theorem dX5_isAnchored_0 : decode cX5_isAnchored 0 = .ok (.aload_n 0, 1) := by decide +kernel
theorem dX5_isAnchored_1 : decode cX5_isAnchored 1 = .ok (.iconst 0, 1) := by decide +kernel
theorem dX5_isAnchored_2 : decode cX5_isAnchored 2 = .ok (.invokevirtual 74, 3) := by decide +kernel
theorem dX5_isAnchored_5 : decode cX5_isAnchored 5 = .ok (.bipush 94, 2) := by decide +kernel
theorem dX5_isAnchored_7 : decode cX5_isAnchored 7 = .ok (.if_icmp .ne 7, 3) := by decide +kernel
theorem dX5_isAnchored_10 : decode cX5_isAnchored 10 = .ok (.iconst 1, 1) := by decide +kernel
theorem dX5_isAnchored_11 : decode cX5_isAnchored 11 = .ok (.goto 4, 3) := by decide +kernel
theorem dX5_isAnchored_14 : decode cX5_isAnchored 14 = .ok (.iconst 0, 1) := by decide +kernel
theorem dX5_isAnchored_15 : decode cX5_isAnchored 15 = .ok (.ireturn, 1) := by decide +kernel
theorem dX5_type_0 : decode cX5_type 0 = .ok (.iload_n 1, 1) := by decide +kernel
theorem dX5_type_1 : decode cX5_type 1 = .ok (.ifCond .lt 21, 3) := by decide +kernel
theorem dX5_type_4 : decode cX5_type 4 = .ok (.iload_n 1, 1) := by decide +kernel
theorem dX5_type_5 : decode cX5_type 5 = .ok (.iconst 2, 1) := by decide +kernel
theorem dX5_type_6 : decode cX5_type 6 = .ok (.if_icmp .gt 16, 3) := by decide +kernel
theorem dX5_type_9 : decode cX5_type 9 = .ok (.iload 4, 2) := by decide +kernel
theorem dX5_type_11 : decode cX5_type 11 = .ok (.iconst 1, 1) := by decide +kernel
theorem dX5_type_12 : decode cX5_type 12 = .ok (.if_icmp .lt 10, 3) := by decide +kernel
theorem dX5_type_15 : decode cX5_type 15 = .ok (.iload 4, 2) := by decide +kernel
theorem dX5_type_17 : decode cX5_type 17 = .ok (.bipush 8, 2) := by decide +kernel
theorem dX5_type_19 : decode cX5_type 19 = .ok (.if_icmp .le 5, 3) := by decide +kernel
theorem dX5_type_22 : decode cX5_type 22 = .ok (.iconst (-1), 1) := by decide +kernel
theorem dX5_type_23 : decode cX5_type 23 = .ok (.ireturn, 1) := by decide +kernel
theorem dX5_type_24 : decode cX5_type 24 = .ok (.aload_n 0, 1) := by decide +kernel
theorem dX5_type_25 : decode cX5_type 25 = .ok (.getfield 13, 3) := by decide +kernel
theorem dX5_type_28 : decode cX5_type 28 = .ok (.iload_n 1, 1) := by decide +kernel
theorem dX5_type_29 : decode cX5_type 29 = .ok (.iaload, 1) := by decide +kernel
theorem dX5_type_30 : decode cX5_type 30 = .ok (.iload 4, 2) := by decide +kernel
theorem dX5_type_32 : decode cX5_type 32 = .ok (.iadd, 1) := by decide +kernel
theorem dX5_type_33 : decode cX5_type 33 = .ok (.iload_n 1, 1) := by decide +kernel
theorem dX5_type_34 : decode cX5_type 34 = .ok (.invokestatic 48, 3) := by decide +kernel
theorem dX5_type_37 : decode cX5_type 37 = .ok (.if_icmp .le 6, 3) := by decide +kernel
theorem dX5_type_40 : decode cX5_type 40 = .ok (.bipush (-3), 2) := by decide +kernel
theorem dX5_type_42 : decode cX5_type 42 = .ok (.ireturn, 1) := by decide +kernel
theorem dX5_type_43 : decode cX5_type 43 = .ok (.iload 4, 2) := by decide +kernel
theorem dX5_type_45 : decode cX5_type 45 = .ok (.iconst 1, 1) := by decide +kernel
theorem dX5_type_46 : decode cX5_type 46 = .ok (.isub, 1) := by decide +kernel
theorem dX5_type_47 : decode cX5_type 47 = .ok (.istore 5, 2) := by decide +kernel
theorem dX5_type_49 : decode cX5_type 49 = .ok (.iload 5, 2) := by decide +kernel
theorem dX5_type_51 : decode cX5_type 51 = .ok (.ifCond .lt 44, 3) := by decide +kernel
theorem dX5_type_54 : decode cX5_type 54 = .ok (.aload_n 0, 1) := by decide +kernel
theorem dX5_type_55 : decode cX5_type 55 = .ok (.getfield 7, 3) := by decide +kernel
theorem dX5_type_58 : decode cX5_type 58 = .ok (.iload_n 1, 1) := by decide +kernel
theorem dX5_type_59 : decode cX5_type 59 = .ok (.invokestatic 52, 3) := by decide +kernel
theorem dX5_type_62 : decode cX5_type 62 = .ok (.aload_n 0, 1) := by decide +kernel
theorem dX5_type_63 : decode cX5_type 63 = .ok (.getfield 13, 3) := by decide +kernel
theorem dX5_type_66 : decode cX5_type 66 = .ok (.iload_n 1, 1) := by decide +kernel
theorem dX5_type_67 : decode cX5_type 67 = .ok (.iaload, 1) := by decide +kernel
theorem dX5_type_68 : decode cX5_type 68 = .ok (.iadd, 1) := by decide +kernel
theorem dX5_type_69 : decode cX5_type 69 = .ok (.lload_n 2, 1) := by decide +kernel
theorem dX5_type_70 : decode cX5_type 70 = .ok (.bipush 8, 2) := by decide +kernel
theorem dX5_type_72 : decode cX5_type 72 = .ok (.iload 5, 2) := by decide +kernel
theorem dX5_type_74 : decode cX5_type 74 = .ok (.imul, 1) := by decide +kernel
theorem dX5_type_75 : decode cX5_type 75 = .ok (.lshr, 1) := by decide +kernel
theorem dX5_type_76 : decode cX5_type 76 = .ok (.l2i, 1) := by decide +kernel
theorem dX5_type_77 : decode cX5_type 77 = .ok (.i2b, 1) := by decide +kernel
theorem dX5_type_78 : decode cX5_type 78 = .ok (.bastore, 1) := by decide +kernel
theorem dX5_type_79 : decode cX5_type 79 = .ok (.aload_n 0, 1) := by decide +kernel
theorem dX5_type_80 : decode cX5_type 80 = .ok (.getfield 13, 3) := by decide +kernel
theorem dX5_type_83 : decode cX5_type 83 = .ok (.iload_n 1, 1) := by decide +kernel
theorem dX5_type_84 : decode cX5_type 84 = .ok (.dup2, 1) := by decide +kernel
theorem dX5_type_85 : decode cX5_type 85 = .ok (.iaload, 1) := by decide +kernel
theorem dX5_type_86 : decode cX5_type 86 = .ok (.iconst 1, 1) := by decide +kernel
theorem dX5_type_87 : decode cX5_type 87 = .ok (.iadd, 1) := by decide +kernel
theorem dX5_type_88 : decode cX5_type 88 = .ok (.iastore, 1) := by decide +kernel
theorem dX5_type_89 : decode cX5_type 89 = .ok (.iinc 5 (-1), 3) := by decide +kernel
theorem dX5_type_92 : decode cX5_type 92 = .ok (.goto (-43), 3) := by decide +kernel
theorem dX5_type_95 : decode cX5_type 95 = .ok (.aload_n 0, 1) := by decide +kernel
theorem dX5_type_96 : decode cX5_type 96 = .ok (.iconst 0, 1) := by decide +kernel
theorem dX5_type_97 : decode cX5_type 97 = .ok (.putfield 55, 3) := by decide +kernel
theorem dX5_type_100 : decode cX5_type 100 = .ok (.aload_n 0, 1) := by decide +kernel
theorem dX5_type_101 : decode cX5_type 101 = .ok (.getfield 13, 3) := by decide +kernel
theorem dX5_type_104 : decode cX5_type 104 = .ok (.iload_n 1, 1) := by decide +kernel
theorem dX5_type_105 : decode cX5_type 105 = .ok (.iaload, 1) := by decide +kernel
theorem dX5_type_106 : decode cX5_type 106 = .ok (.ireturn, 1) := by decide +kernel
