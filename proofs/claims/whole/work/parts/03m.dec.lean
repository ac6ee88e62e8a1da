theorem dX10_byteAt_0 : decode cX10_byteAt 0 = .ok (.iload_n 1, 1) := by decide +kernel
theorem dX10_byteAt_1 : decode cX10_byteAt 1 = .ok (.aload_n 0, 1) := by decide +kernel
theorem dX10_byteAt_2 : decode cX10_byteAt 2 = .ok (.getfield 137, 3) := by decide +kernel
theorem dX10_byteAt_5 : decode cX10_byteAt 5 = .ok (.if_icmp .ge 12, 3) := by decide +kernel
theorem dX10_byteAt_8 : decode cX10_byteAt 8 = .ok (.aload_n 0, 1) := by decide +kernel
theorem dX10_byteAt_9 : decode cX10_byteAt 9 = .ok (.getfield 41, 3) := by decide +kernel
theorem dX10_byteAt_12 : decode cX10_byteAt 12 = .ok (.iload_n 1, 1) := by decide +kernel
theorem dX10_byteAt_13 : decode cX10_byteAt 13 = .ok (.iaload, 1) := by decide +kernel
theorem dX10_byteAt_14 : decode cX10_byteAt 14 = .ok (.goto 5, 3) := by decide +kernel
theorem dX10_byteAt_17 : decode cX10_byteAt 17 = .ok (.ldc 106, 2) := by decide +kernel
theorem dX10_byteAt_19 : decode cX10_byteAt 19 = .ok (.ireturn, 1) := by decide +kernel
theorem dX10_isLetter_0 : decode cX10_isLetter 0 = .ok (.iload_n 0, 1) := by decide +kernel
theorem dX10_isLetter_1 : decode cX10_isLetter 1 = .ok (.bipush 97, 2) := by decide +kernel
theorem dX10_isLetter_3 : decode cX10_isLetter 3 = .ok (.if_icmp .lt 13, 3) := by decide +kernel
theorem dX10_isLetter_6 : decode cX10_isLetter 6 = .ok (.iload_n 0, 1) := by decide +kernel
theorem dX10_isLetter_7 : decode cX10_isLetter 7 = .ok (.bipush 122, 2) := by decide +kernel
theorem dX10_isLetter_9 : decode cX10_isLetter 9 = .ok (.if_icmp .gt 7, 3) := by decide +kernel
theorem dX10_isLetter_12 : decode cX10_isLetter 12 = .ok (.iconst 1, 1) := by decide +kernel
theorem dX10_isLetter_13 : decode cX10_isLetter 13 = .ok (.goto 4, 3) := by decide +kernel
theorem dX10_isLetter_16 : decode cX10_isLetter 16 = .ok (.iconst 0, 1) := by decide +kernel
theorem dX10_isLetter_17 : decode cX10_isLetter 17 = .ok (.ireturn, 1) := by decide +kernel
theorem dX10_isFigure_0 : decode cX10_isFigure 0 = .ok (.iload_n 0, 1) := by decide +kernel
theorem dX10_isFigure_1 : decode cX10_isFigure 1 = .ok (.bipush 48, 2) := by decide +kernel
theorem dX10_isFigure_3 : decode cX10_isFigure 3 = .ok (.if_icmp .lt 13, 3) := by decide +kernel
theorem dX10_isFigure_6 : decode cX10_isFigure 6 = .ok (.iload_n 0, 1) := by decide +kernel
theorem dX10_isFigure_7 : decode cX10_isFigure 7 = .ok (.bipush 57, 2) := by decide +kernel
theorem dX10_isFigure_9 : decode cX10_isFigure 9 = .ok (.if_icmp .gt 7, 3) := by decide +kernel
theorem dX10_isFigure_12 : decode cX10_isFigure 12 = .ok (.iconst 1, 1) := by decide +kernel
theorem dX10_isFigure_13 : decode cX10_isFigure 13 = .ok (.goto 4, 3) := by decide +kernel
theorem dX10_isFigure_16 : decode cX10_isFigure 16 = .ok (.iconst 0, 1) := by decide +kernel
theorem dX10_isFigure_17 : decode cX10_isFigure 17 = .ok (.ireturn, 1) := by decide +kernel
theorem dX10_next_0 : decode cX10_next 0 = .ok (.aload_n 0, 1) := by decide +kernel
theorem dX10_next_1 : decode cX10_next 1 = .ok (.aload_n 0, 1) := by decide +kernel
theorem dX10_next_2 : decode cX10_next 2 = .ok (.getfield 140, 3) := by decide +kernel
theorem dX10_next_5 : decode cX10_next 5 = .ok (.invokevirtual 143, 3) := by decide +kernel
theorem dX10_next_8 : decode cX10_next 8 = .ok (.bipush 32, 2) := by decide +kernel
theorem dX10_next_10 : decode cX10_next 10 = .ok (.if_icmp .eq 16, 3) := by decide +kernel
theorem dX10_next_13 : decode cX10_next 13 = .ok (.aload_n 0, 1) := by decide +kernel
theorem dX10_next_14 : decode cX10_next 14 = .ok (.aload_n 0, 1) := by decide +kernel
theorem dX10_next_15 : decode cX10_next 15 = .ok (.getfield 140, 3) := by decide +kernel
theorem dX10_next_18 : decode cX10_next 18 = .ok (.invokevirtual 143, 3) := by decide +kernel
theorem dX10_next_21 : decode cX10_next 21 = .ok (.bipush 10, 2) := by decide +kernel
theorem dX10_next_23 : decode cX10_next 23 = .ok (.if_icmp .ne 16, 3) := by decide +kernel
theorem dX10_next_26 : decode cX10_next 26 = .ok (.aload_n 0, 1) := by decide +kernel
theorem dX10_next_27 : decode cX10_next 27 = .ok (.dup, 1) := by decide +kernel
theorem dX10_next_28 : decode cX10_next 28 = .ok (.getfield 140, 3) := by decide +kernel
theorem dX10_next_31 : decode cX10_next 31 = .ok (.iconst 1, 1) := by decide +kernel
theorem dX10_next_32 : decode cX10_next 32 = .ok (.iadd, 1) := by decide +kernel
theorem dX10_next_33 : decode cX10_next 33 = .ok (.putfield 140, 3) := by decide +kernel
theorem dX10_next_36 : decode cX10_next 36 = .ok (.goto (-36), 3) := by decide +kernel
theorem dX10_next_39 : decode cX10_next 39 = .ok (.aload_n 0, 1) := by decide +kernel
theorem dX10_next_40 : decode cX10_next 40 = .ok (.aload_n 0, 1) := by decide +kernel
theorem dX10_next_41 : decode cX10_next 41 = .ok (.getfield 140, 3) := by decide +kernel
theorem dX10_next_44 : decode cX10_next 44 = .ok (.putfield 146, 3) := by decide +kernel
theorem dX10_next_47 : decode cX10_next 47 = .ok (.aload_n 0, 1) := by decide +kernel
theorem dX10_next_48 : decode cX10_next 48 = .ok (.aload_n 0, 1) := by decide +kernel
theorem dX10_next_49 : decode cX10_next 49 = .ok (.getfield 140, 3) := by decide +kernel
theorem dX10_next_52 : decode cX10_next 52 = .ok (.invokevirtual 143, 3) := by decide +kernel
theorem dX10_next_55 : decode cX10_next 55 = .ok (.istore_n 1, 1) := by decide +kernel
theorem dX10_next_56 : decode cX10_next 56 = .ok (.iload_n 1, 1) := by decide +kernel
theorem dX10_next_57 : decode cX10_next 57 = .ok (.ldc 106, 2) := by decide +kernel
theorem dX10_next_59 : decode cX10_next 59 = .ok (.if_icmp .ne 11, 3) := by decide +kernel
theorem dX10_next_62 : decode cX10_next 62 = .ok (.aload_n 0, 1) := by decide +kernel
theorem dX10_next_63 : decode cX10_next 63 = .ok (.iconst 1, 1) := by decide +kernel
theorem dX10_next_64 : decode cX10_next 64 = .ok (.putfield 149, 3) := by decide +kernel
theorem dX10_next_67 : decode cX10_next 67 = .ok (.goto 129, 3) := by decide +kernel
theorem dX10_next_70 : decode cX10_next 70 = .ok (.iload_n 1, 1) := by decide +kernel
theorem dX10_next_71 : decode cX10_next 71 = .ok (.invokestatic 152, 3) := by decide +kernel
theorem dX10_next_74 : decode cX10_next 74 = .ok (.ifCond .eq 38, 3) := by decide +kernel
theorem dX10_next_77 : decode cX10_next 77 = .ok (.aload_n 0, 1) := by decide +kernel
theorem dX10_next_78 : decode cX10_next 78 = .ok (.aload_n 0, 1) := by decide +kernel
theorem dX10_next_79 : decode cX10_next 79 = .ok (.getfield 140, 3) := by decide +kernel
theorem dX10_next_82 : decode cX10_next 82 = .ok (.invokevirtual 143, 3) := by decide +kernel
theorem dX10_next_85 : decode cX10_next 85 = .ok (.invokestatic 152, 3) := by decide +kernel
theorem dX10_next_88 : decode cX10_next 88 = .ok (.ifCond .eq 16, 3) := by decide +kernel
theorem dX10_next_91 : decode cX10_next 91 = .ok (.aload_n 0, 1) := by decide +kernel
theorem dX10_next_92 : decode cX10_next 92 = .ok (.dup, 1) := by decide +kernel
theorem dX10_next_93 : decode cX10_next 93 = .ok (.getfield 140, 3) := by decide +kernel
theorem dX10_next_96 : decode cX10_next 96 = .ok (.iconst 1, 1) := by decide +kernel
theorem dX10_next_97 : decode cX10_next 97 = .ok (.iadd, 1) := by decide +kernel
theorem dX10_next_98 : decode cX10_next 98 = .ok (.putfield 140, 3) := by decide +kernel
theorem dX10_next_101 : decode cX10_next 101 = .ok (.goto (-24), 3) := by decide +kernel
theorem dX10_next_104 : decode cX10_next 104 = .ok (.aload_n 0, 1) := by decide +kernel
theorem dX10_next_105 : decode cX10_next 105 = .ok (.iconst 2, 1) := by decide +kernel
theorem dX10_next_106 : decode cX10_next 106 = .ok (.putfield 149, 3) := by decide +kernel
theorem dX10_next_109 : decode cX10_next 109 = .ok (.goto 87, 3) := by decide +kernel
theorem dX10_next_112 : decode cX10_next 112 = .ok (.iload_n 1, 1) := by decide +kernel
theorem dX10_next_113 : decode cX10_next 113 = .ok (.invokestatic 155, 3) := by decide +kernel
theorem dX10_next_116 : decode cX10_next 116 = .ok (.ifCond .eq 55, 3) := by decide +kernel
theorem dX10_next_119 : decode cX10_next 119 = .ok (.aload_n 0, 1) := by decide +kernel
theorem dX10_next_120 : decode cX10_next 120 = .ok (.aload_n 0, 1) := by decide +kernel
theorem dX10_next_121 : decode cX10_next 121 = .ok (.getfield 140, 3) := by decide +kernel
theorem dX10_next_124 : decode cX10_next 124 = .ok (.invokevirtual 143, 3) := by decide +kernel
theorem dX10_next_127 : decode cX10_next 127 = .ok (.invokestatic 155, 3) := by decide +kernel
theorem dX10_next_130 : decode cX10_next 130 = .ok (.ifCond .eq 16, 3) := by decide +kernel
theorem dX10_next_133 : decode cX10_next 133 = .ok (.aload_n 0, 1) := by decide +kernel
theorem dX10_next_134 : decode cX10_next 134 = .ok (.dup, 1) := by decide +kernel
theorem dX10_next_135 : decode cX10_next 135 = .ok (.getfield 140, 3) := by decide +kernel
theorem dX10_next_138 : decode cX10_next 138 = .ok (.iconst 1, 1) := by decide +kernel
theorem dX10_next_139 : decode cX10_next 139 = .ok (.iadd, 1) := by decide +kernel
theorem dX10_next_140 : decode cX10_next 140 = .ok (.putfield 140, 3) := by decide +kernel
theorem dX10_next_143 : decode cX10_next 143 = .ok (.goto (-24), 3) := by decide +kernel
theorem dX10_next_146 : decode cX10_next 146 = .ok (.aload_n 0, 1) := by decide +kernel
theorem dX10_next_147 : decode cX10_next 147 = .ok (.aload_n 0, 1) := by decide +kernel
theorem dX10_next_148 : decode cX10_next 148 = .ok (.getfield 140, 3) := by decide +kernel
theorem dX10_next_151 : decode cX10_next 151 = .ok (.aload_n 0, 1) := by decide +kernel
theorem dX10_next_152 : decode cX10_next 152 = .ok (.getfield 146, 3) := by decide +kernel
theorem dX10_next_155 : decode cX10_next 155 = .ok (.isub, 1) := by decide +kernel
theorem dX10_next_156 : decode cX10_next 156 = .ok (.iconst 4, 1) := by decide +kernel
theorem dX10_next_157 : decode cX10_next 157 = .ok (.if_icmp .le 7, 3) := by decide +kernel
theorem dX10_next_160 : decode cX10_next 160 = .ok (.iconst 0, 1) := by decide +kernel
theorem dX10_next_161 : decode cX10_next 161 = .ok (.goto 4, 3) := by decide +kernel
theorem dX10_next_164 : decode cX10_next 164 = .ok (.iconst 3, 1) := by decide +kernel
theorem dX10_next_165 : decode cX10_next 165 = .ok (.putfield 149, 3) := by decide +kernel
theorem dX10_next_168 : decode cX10_next 168 = .ok (.goto 28, 3) := by decide +kernel
theorem dX10_next_171 : decode cX10_next 171 = .ok (.aload_n 0, 1) := by decide +kernel
theorem dX10_next_172 : decode cX10_next 172 = .ok (.dup, 1) := by decide +kernel
theorem dX10_next_173 : decode cX10_next 173 = .ok (.getfield 140, 3) := by decide +kernel
theorem dX10_next_176 : decode cX10_next 176 = .ok (.iconst 1, 1) := by decide +kernel
theorem dX10_next_177 : decode cX10_next 177 = .ok (.iadd, 1) := by decide +kernel
theorem dX10_next_178 : decode cX10_next 178 = .ok (.putfield 140, 3) := by decide +kernel
theorem dX10_next_181 : decode cX10_next 181 = .ok (.aload_n 0, 1) := by decide +kernel
theorem dX10_next_182 : decode cX10_next 182 = .ok (.iload_n 1, 1) := by decide +kernel
theorem dX10_next_183 : decode cX10_next 183 = .ok (.bipush 59, 2) := by decide +kernel
theorem dX10_next_185 : decode cX10_next 185 = .ok (.if_icmp .ne 7, 3) := by decide +kernel
theorem dX10_next_188 : decode cX10_next 188 = .ok (.iconst 4, 1) := by decide +kernel
theorem dX10_next_189 : decode cX10_next 189 = .ok (.goto 4, 3) := by decide +kernel
theorem dX10_next_192 : decode cX10_next 192 = .ok (.iconst 0, 1) := by decide +kernel
theorem dX10_next_193 : decode cX10_next 193 = .ok (.putfield 149, 3) := by decide +kernel
theorem dX10_next_196 : decode cX10_next 196 = .ok (.aload_n 0, 1) := by decide +kernel
theorem dX10_next_197 : decode cX10_next 197 = .ok (.aload_n 0, 1) := by decide +kernel
theorem dX10_next_198 : decode cX10_next 198 = .ok (.getfield 140, 3) := by decide +kernel
theorem dX10_next_201 : decode cX10_next 201 = .ok (.putfield 158, 3) := by decide +kernel
theorem dX10_next_204 : decode cX10_next 204 = .ok (.return_, 1) := by decide +kernel
theorem dX10_bad_0 : decode cX10_bad 0 = .ok (.aload_n 0, 1) := by decide +kernel
theorem dX10_bad_1 : decode cX10_bad 1 = .ok (.getfield 161, 3) := by decide +kernel
theorem dX10_bad_4 : decode cX10_bad 4 = .ok (.ifCond .ne 16, 3) := by decide +kernel
theorem dX10_bad_7 : decode cX10_bad 7 = .ok (.aload_n 0, 1) := by decide +kernel
theorem dX10_bad_8 : decode cX10_bad 8 = .ok (.iload_n 1, 1) := by decide +kernel
theorem dX10_bad_9 : decode cX10_bad 9 = .ok (.putfield 161, 3) := by decide +kernel
theorem dX10_bad_12 : decode cX10_bad 12 = .ok (.aload_n 0, 1) := by decide +kernel
theorem dX10_bad_13 : decode cX10_bad 13 = .ok (.aload_n 0, 1) := by decide +kernel
theorem dX10_bad_14 : decode cX10_bad 14 = .ok (.getfield 146, 3) := by decide +kernel
theorem dX10_bad_17 : decode cX10_bad 17 = .ok (.putfield 164, 3) := by decide +kernel
theorem dX10_bad_20 : decode cX10_bad 20 = .ok (.return_, 1) := by decide +kernel
theorem dX10_must_0 : decode cX10_must 0 = .ok (.iload_n 1, 1) := by decide +kernel
theorem dX10_must_1 : decode cX10_must 1 = .ok (.ifCond .ne 8, 3) := by decide +kernel
theorem dX10_must_4 : decode cX10_must 4 = .ok (.aload_n 0, 1) := by decide +kernel
theorem dX10_must_5 : decode cX10_must 5 = .ok (.iconst 1, 1) := by decide +kernel
theorem dX10_must_6 : decode cX10_must 6 = .ok (.invokevirtual 167, 3) := by decide +kernel
theorem dX10_must_9 : decode cX10_must 9 = .ok (.aload_n 0, 1) := by decide +kernel
theorem dX10_must_10 : decode cX10_must 10 = .ok (.getfield 161, 3) := by decide +kernel
theorem dX10_must_13 : decode cX10_must 13 = .ok (.ifCond .ne 7, 3) := by decide +kernel
theorem dX10_must_16 : decode cX10_must 16 = .ok (.aload_n 0, 1) := by decide +kernel
theorem dX10_must_17 : decode cX10_must 17 = .ok (.invokevirtual 171, 3) := by decide +kernel
theorem dX10_must_20 : decode cX10_must 20 = .ok (.return_, 1) := by decide +kernel
theorem dX10_word_0 : decode cX10_word 0 = .ok (.lconst 0, 1) := by decide +kernel
theorem dX10_word_1 : decode cX10_word 1 = .ok (.lstore_n 1, 1) := by decide +kernel
theorem dX10_word_2 : decode cX10_word 2 = .ok (.aload_n 0, 1) := by decide +kernel
theorem dX10_word_3 : decode cX10_word 3 = .ok (.getfield 146, 3) := by decide +kernel
theorem dX10_word_6 : decode cX10_word 6 = .ok (.istore_n 3, 1) := by decide +kernel
theorem dX10_word_7 : decode cX10_word 7 = .ok (.iload_n 3, 1) := by decide +kernel
theorem dX10_word_8 : decode cX10_word 8 = .ok (.aload_n 0, 1) := by decide +kernel
theorem dX10_word_9 : decode cX10_word 9 = .ok (.getfield 158, 3) := by decide +kernel
theorem dX10_word_12 : decode cX10_word 12 = .ok (.if_icmp .ge 44, 3) := by decide +kernel
theorem dX10_word_15 : decode cX10_word 15 = .ok (.aload_n 0, 1) := by decide +kernel
theorem dX10_word_16 : decode cX10_word 16 = .ok (.getfield 149, 3) := by decide +kernel
theorem dX10_word_19 : decode cX10_word 19 = .ok (.iconst 2, 1) := by decide +kernel
theorem dX10_word_20 : decode cX10_word 20 = .ok (.if_icmp .ne 36, 3) := by decide +kernel
theorem dX10_word_23 : decode cX10_word 23 = .ok (.aload_n 0, 1) := by decide +kernel
theorem dX10_word_24 : decode cX10_word 24 = .ok (.getfield 158, 3) := by decide +kernel
theorem dX10_word_27 : decode cX10_word 27 = .ok (.aload_n 0, 1) := by decide +kernel
theorem dX10_word_28 : decode cX10_word 28 = .ok (.getfield 146, 3) := by decide +kernel
theorem dX10_word_31 : decode cX10_word 31 = .ok (.isub, 1) := by decide +kernel
theorem dX10_word_32 : decode cX10_word 32 = .ok (.bipush 8, 2) := by decide +kernel
theorem dX10_word_34 : decode cX10_word 34 = .ok (.if_icmp .ge 22, 3) := by decide +kernel
theorem dX10_word_37 : decode cX10_word 37 = .ok (.lload_n 1, 1) := by decide +kernel
theorem dX10_word_38 : decode cX10_word 38 = .ok (.bipush 8, 2) := by decide +kernel
theorem dX10_word_40 : decode cX10_word 40 = .ok (.lshl, 1) := by decide +kernel
theorem dX10_word_41 : decode cX10_word 41 = .ok (.aload_n 0, 1) := by decide +kernel
theorem dX10_word_42 : decode cX10_word 42 = .ok (.getfield 41, 3) := by decide +kernel
theorem dX10_word_45 : decode cX10_word 45 = .ok (.iload_n 3, 1) := by decide +kernel
theorem dX10_word_46 : decode cX10_word 46 = .ok (.iaload, 1) := by decide +kernel
theorem dX10_word_47 : decode cX10_word 47 = .ok (.i2l, 1) := by decide +kernel
theorem dX10_word_48 : decode cX10_word 48 = .ok (.lor, 1) := by decide +kernel
theorem dX10_word_49 : decode cX10_word 49 = .ok (.lstore_n 1, 1) := by decide +kernel
theorem dX10_word_50 : decode cX10_word 50 = .ok (.iinc 3 1, 3) := by decide +kernel
theorem dX10_word_53 : decode cX10_word 53 = .ok (.goto (-46), 3) := by decide +kernel
theorem dX10_word_56 : decode cX10_word 56 = .ok (.lload_n 1, 1) := by decide +kernel
theorem dX10_word_57 : decode cX10_word 57 = .ok (.lreturn, 1) := by decide +kernel
theorem dX10_numberIn_0 : decode cX10_numberIn 0 = .ok (.aload_n 0, 1) := by decide +kernel
theorem dX10_numberIn_1 : decode cX10_numberIn 1 = .ok (.getfield 161, 3) := by decide +kernel
theorem dX10_numberIn_4 : decode cX10_numberIn 4 = .ok (.ifCond .le 5, 3) := by decide +kernel
theorem dX10_numberIn_7 : decode cX10_numberIn 7 = .ok (.iconst 0, 1) := by decide +kernel
theorem dX10_numberIn_8 : decode cX10_numberIn 8 = .ok (.ireturn, 1) := by decide +kernel
theorem dX10_numberIn_9 : decode cX10_numberIn 9 = .ok (.iconst 0, 1) := by decide +kernel
theorem dX10_numberIn_10 : decode cX10_numberIn 10 = .ok (.istore_n 3, 1) := by decide +kernel
theorem dX10_numberIn_11 : decode cX10_numberIn 11 = .ok (.aload_n 0, 1) := by decide +kernel
theorem dX10_numberIn_12 : decode cX10_numberIn 12 = .ok (.getfield 146, 3) := by decide +kernel
theorem dX10_numberIn_15 : decode cX10_numberIn 15 = .ok (.istore 4, 2) := by decide +kernel
theorem dX10_numberIn_17 : decode cX10_numberIn 17 = .ok (.iload 4, 2) := by decide +kernel
theorem dX10_numberIn_19 : decode cX10_numberIn 19 = .ok (.aload_n 0, 1) := by decide +kernel
theorem dX10_numberIn_20 : decode cX10_numberIn 20 = .ok (.getfield 158, 3) := by decide +kernel
theorem dX10_numberIn_23 : decode cX10_numberIn 23 = .ok (.if_icmp .ge 33, 3) := by decide +kernel
theorem dX10_numberIn_26 : decode cX10_numberIn 26 = .ok (.aload_n 0, 1) := by decide +kernel
theorem dX10_numberIn_27 : decode cX10_numberIn 27 = .ok (.getfield 149, 3) := by decide +kernel
theorem dX10_numberIn_30 : decode cX10_numberIn 30 = .ok (.iconst 3, 1) := by decide +kernel
theorem dX10_numberIn_31 : decode cX10_numberIn 31 = .ok (.if_icmp .ne 25, 3) := by decide +kernel
theorem dX10_numberIn_34 : decode cX10_numberIn 34 = .ok (.bipush 10, 2) := by decide +kernel
theorem dX10_numberIn_36 : decode cX10_numberIn 36 = .ok (.iload_n 3, 1) := by decide +kernel
theorem dX10_numberIn_37 : decode cX10_numberIn 37 = .ok (.imul, 1) := by decide +kernel
theorem dX10_numberIn_38 : decode cX10_numberIn 38 = .ok (.aload_n 0, 1) := by decide +kernel
theorem dX10_numberIn_39 : decode cX10_numberIn 39 = .ok (.getfield 41, 3) := by decide +kernel
theorem dX10_numberIn_42 : decode cX10_numberIn 42 = .ok (.iload 4, 2) := by decide +kernel
theorem dX10_numberIn_44 : decode cX10_numberIn 44 = .ok (.iaload, 1) := by decide +kernel
theorem dX10_numberIn_45 : decode cX10_numberIn 45 = .ok (.iadd, 1) := by decide +kernel
theorem dX10_numberIn_46 : decode cX10_numberIn 46 = .ok (.bipush 48, 2) := by decide +kernel
theorem dX10_numberIn_48 : decode cX10_numberIn 48 = .ok (.isub, 1) := by decide +kernel
theorem dX10_numberIn_49 : decode cX10_numberIn 49 = .ok (.istore_n 3, 1) := by decide +kernel
theorem dX10_numberIn_50 : decode cX10_numberIn 50 = .ok (.iinc 4 1, 3) := by decide +kernel
theorem dX10_numberIn_53 : decode cX10_numberIn 53 = .ok (.goto (-36), 3) := by decide +kernel
theorem dX10_numberIn_56 : decode cX10_numberIn 56 = .ok (.aload_n 0, 1) := by decide +kernel
theorem dX10_numberIn_57 : decode cX10_numberIn 57 = .ok (.getfield 149, 3) := by decide +kernel
theorem dX10_numberIn_60 : decode cX10_numberIn 60 = .ok (.iconst 3, 1) := by decide +kernel
theorem dX10_numberIn_61 : decode cX10_numberIn 61 = .ok (.if_icmp .ne 20, 3) := by decide +kernel
theorem dX10_numberIn_64 : decode cX10_numberIn 64 = .ok (.iload_n 3, 1) := by decide +kernel
theorem dX10_numberIn_65 : decode cX10_numberIn 65 = .ok (.i2l, 1) := by decide +kernel
theorem dX10_numberIn_66 : decode cX10_numberIn 66 = .ok (.iload_n 1, 1) := by decide +kernel
theorem dX10_numberIn_67 : decode cX10_numberIn 67 = .ok (.i2l, 1) := by decide +kernel
theorem dX10_numberIn_68 : decode cX10_numberIn 68 = .ok (.iload_n 2, 1) := by decide +kernel
theorem dX10_numberIn_69 : decode cX10_numberIn 69 = .ok (.i2l, 1) := by decide +kernel
theorem dX10_numberIn_70 : decode cX10_numberIn 70 = .ok (.invokestatic 87, 3) := by decide +kernel
theorem dX10_numberIn_73 : decode cX10_numberIn 73 = .ok (.ifCond .ne 8, 3) := by decide +kernel
theorem dX10_numberIn_76 : decode cX10_numberIn 76 = .ok (.aload_n 0, 1) := by decide +kernel
theorem dX10_numberIn_77 : decode cX10_numberIn 77 = .ok (.iconst 2, 1) := by decide +kernel
theorem dX10_numberIn_78 : decode cX10_numberIn 78 = .ok (.invokevirtual 167, 3) := by decide +kernel
theorem dX10_numberIn_81 : decode cX10_numberIn 81 = .ok (.aload_n 0, 1) := by decide +kernel
theorem dX10_numberIn_82 : decode cX10_numberIn 82 = .ok (.aload_n 0, 1) := by decide +kernel
theorem dX10_numberIn_83 : decode cX10_numberIn 83 = .ok (.getfield 149, 3) := by decide +kernel
theorem dX10_numberIn_86 : decode cX10_numberIn 86 = .ok (.iconst 3, 1) := by decide +kernel
theorem dX10_numberIn_87 : decode cX10_numberIn 87 = .ok (.if_icmp .ne 7, 3) := by decide +kernel
theorem dX10_numberIn_90 : decode cX10_numberIn 90 = .ok (.iconst 1, 1) := by decide +kernel
theorem dX10_numberIn_91 : decode cX10_numberIn 91 = .ok (.goto 4, 3) := by decide +kernel
theorem dX10_numberIn_94 : decode cX10_numberIn 94 = .ok (.iconst 0, 1) := by decide +kernel
theorem dX10_numberIn_95 : decode cX10_numberIn 95 = .ok (.invokevirtual 174, 3) := by decide +kernel
theorem dX10_numberIn_98 : decode cX10_numberIn 98 = .ok (.iload_n 3, 1) := by decide +kernel
theorem dX10_numberIn_99 : decode cX10_numberIn 99 = .ok (.ireturn, 1) := by decide +kernel
theorem dX10_readWeight_0 : decode cX10_readWeight 0 = .ok (.aload_n 0, 1) := by decide +kernel
theorem dX10_readWeight_1 : decode cX10_readWeight 1 = .ok (.invokevirtual 178, 3) := by decide +kernel
theorem dX10_readWeight_4 : decode cX10_readWeight 4 = .ok (.lstore_n 1, 1) := by decide +kernel
theorem dX10_readWeight_5 : decode cX10_readWeight 5 = .ok (.aload_n 0, 1) := by decide +kernel
theorem dX10_readWeight_6 : decode cX10_readWeight 6 = .ok (.lload_n 1, 1) := by decide +kernel
theorem dX10_readWeight_7 : decode cX10_readWeight 7 = .ok (.ldc2_w 182, 3) := by decide +kernel
theorem dX10_readWeight_10 : decode cX10_readWeight 10 = .ok (.lcmp, 1) := by decide +kernel
theorem dX10_readWeight_11 : decode cX10_readWeight 11 = .ok (.ifCond .eq 35, 3) := by decide +kernel
theorem dX10_readWeight_14 : decode cX10_readWeight 14 = .ok (.lload_n 1, 1) := by decide +kernel
theorem dX10_readWeight_15 : decode cX10_readWeight 15 = .ok (.ldc2_w 184, 3) := by decide +kernel
theorem dX10_readWeight_18 : decode cX10_readWeight 18 = .ok (.lcmp, 1) := by decide +kernel
theorem dX10_readWeight_19 : decode cX10_readWeight 19 = .ok (.ifCond .eq 27, 3) := by decide +kernel
theorem dX10_readWeight_22 : decode cX10_readWeight 22 = .ok (.lload_n 1, 1) := by decide +kernel
theorem dX10_readWeight_23 : decode cX10_readWeight 23 = .ok (.ldc2_w 186, 3) := by decide +kernel
theorem dX10_readWeight_26 : decode cX10_readWeight 26 = .ok (.lcmp, 1) := by decide +kernel
theorem dX10_readWeight_27 : decode cX10_readWeight 27 = .ok (.ifCond .eq 19, 3) := by decide +kernel
theorem dX10_readWeight_30 : decode cX10_readWeight 30 = .ok (.lload_n 1, 1) := by decide +kernel
theorem dX10_readWeight_31 : decode cX10_readWeight 31 = .ok (.ldc2_w 188, 3) := by decide +kernel
theorem dX10_readWeight_34 : decode cX10_readWeight 34 = .ok (.lcmp, 1) := by decide +kernel
theorem dX10_readWeight_35 : decode cX10_readWeight 35 = .ok (.ifCond .eq 11, 3) := by decide +kernel
theorem dX10_readWeight_38 : decode cX10_readWeight 38 = .ok (.lload_n 1, 1) := by decide +kernel
theorem dX10_readWeight_39 : decode cX10_readWeight 39 = .ok (.ldc2_w 190, 3) := by decide +kernel
theorem dX10_readWeight_42 : decode cX10_readWeight 42 = .ok (.lcmp, 1) := by decide +kernel
theorem dX10_readWeight_43 : decode cX10_readWeight 43 = .ok (.ifCond .ne 7, 3) := by decide +kernel
theorem dX10_readWeight_46 : decode cX10_readWeight 46 = .ok (.iconst 1, 1) := by decide +kernel
theorem dX10_readWeight_47 : decode cX10_readWeight 47 = .ok (.goto 4, 3) := by decide +kernel
theorem dX10_readWeight_50 : decode cX10_readWeight 50 = .ok (.iconst 0, 1) := by decide +kernel
theorem dX10_readWeight_51 : decode cX10_readWeight 51 = .ok (.invokevirtual 174, 3) := by decide +kernel
theorem dX10_readWeight_54 : decode cX10_readWeight 54 = .ok (.bipush 20, 2) := by decide +kernel
theorem dX10_readWeight_56 : decode cX10_readWeight 56 = .ok (.istore_n 3, 1) := by decide +kernel
theorem dX10_readWeight_57 : decode cX10_readWeight 57 = .ok (.lload_n 1, 1) := by decide +kernel
theorem dX10_readWeight_58 : decode cX10_readWeight 58 = .ok (.ldc2_w 182, 3) := by decide +kernel
theorem dX10_readWeight_61 : decode cX10_readWeight 61 = .ok (.lcmp, 1) := by decide +kernel
theorem dX10_readWeight_62 : decode cX10_readWeight 62 = .ok (.ifCond .eq 11, 3) := by decide +kernel
theorem dX10_readWeight_65 : decode cX10_readWeight 65 = .ok (.lload_n 1, 1) := by decide +kernel
theorem dX10_readWeight_66 : decode cX10_readWeight 66 = .ok (.ldc2_w 184, 3) := by decide +kernel
theorem dX10_readWeight_69 : decode cX10_readWeight 69 = .ok (.lcmp, 1) := by decide +kernel
theorem dX10_readWeight_70 : decode cX10_readWeight 70 = .ok (.ifCond .ne 29, 3) := by decide +kernel
theorem dX10_readWeight_73 : decode cX10_readWeight 73 = .ok (.lload_n 1, 1) := by decide +kernel
theorem dX10_readWeight_74 : decode cX10_readWeight 74 = .ok (.ldc2_w 182, 3) := by decide +kernel
theorem dX10_readWeight_77 : decode cX10_readWeight 77 = .ok (.lcmp, 1) := by decide +kernel
theorem dX10_readWeight_78 : decode cX10_readWeight 78 = .ok (.ifCond .ne 7, 3) := by decide +kernel
theorem dX10_readWeight_81 : decode cX10_readWeight 81 = .ok (.iconst 0, 1) := by decide +kernel
theorem dX10_readWeight_82 : decode cX10_readWeight 82 = .ok (.goto 5, 3) := by decide +kernel
theorem dX10_readWeight_85 : decode cX10_readWeight 85 = .ok (.bipush 10, 2) := by decide +kernel
theorem dX10_readWeight_87 : decode cX10_readWeight 87 = .ok (.aload_n 0, 1) := by decide +kernel
theorem dX10_readWeight_88 : decode cX10_readWeight 88 = .ok (.iconst 0, 1) := by decide +kernel
theorem dX10_readWeight_89 : decode cX10_readWeight 89 = .ok (.bipush 9, 2) := by decide +kernel
theorem dX10_readWeight_91 : decode cX10_readWeight 91 = .ok (.invokevirtual 192, 3) := by decide +kernel
theorem dX10_readWeight_94 : decode cX10_readWeight 94 = .ok (.iadd, 1) := by decide +kernel
theorem dX10_readWeight_95 : decode cX10_readWeight 95 = .ok (.istore_n 3, 1) := by decide +kernel
theorem dX10_readWeight_96 : decode cX10_readWeight 96 = .ok (.goto 54, 3) := by decide +kernel
theorem dX10_readWeight_99 : decode cX10_readWeight 99 = .ok (.lload_n 1, 1) := by decide +kernel
theorem dX10_readWeight_100 : decode cX10_readWeight 100 = .ok (.ldc2_w 188, 3) := by decide +kernel
theorem dX10_readWeight_103 : decode cX10_readWeight 103 = .ok (.lcmp, 1) := by decide +kernel
theorem dX10_readWeight_104 : decode cX10_readWeight 104 = .ok (.ifCond .ne 17, 3) := by decide +kernel
theorem dX10_readWeight_107 : decode cX10_readWeight 107 = .ok (.bipush 30, 2) := by decide +kernel
theorem dX10_readWeight_109 : decode cX10_readWeight 109 = .ok (.aload_n 0, 1) := by decide +kernel
theorem dX10_readWeight_110 : decode cX10_readWeight 110 = .ok (.iconst 1, 1) := by decide +kernel
theorem dX10_readWeight_111 : decode cX10_readWeight 111 = .ok (.bipush 9, 2) := by decide +kernel
theorem dX10_readWeight_113 : decode cX10_readWeight 113 = .ok (.invokevirtual 192, 3) := by decide +kernel
theorem dX10_readWeight_116 : decode cX10_readWeight 116 = .ok (.iadd, 1) := by decide +kernel
theorem dX10_readWeight_117 : decode cX10_readWeight 117 = .ok (.istore_n 3, 1) := by decide +kernel
theorem dX10_readWeight_118 : decode cX10_readWeight 118 = .ok (.goto 32, 3) := by decide +kernel
theorem dX10_readWeight_121 : decode cX10_readWeight 121 = .ok (.lload_n 1, 1) := by decide +kernel
theorem dX10_readWeight_122 : decode cX10_readWeight 122 = .ok (.ldc2_w 190, 3) := by decide +kernel
theorem dX10_readWeight_125 : decode cX10_readWeight 125 = .ok (.lcmp, 1) := by decide +kernel
theorem dX10_readWeight_126 : decode cX10_readWeight 126 = .ok (.ifCond .ne 24, 3) := by decide +kernel
theorem dX10_readWeight_129 : decode cX10_readWeight 129 = .ok (.bipush 40, 2) := by decide +kernel
theorem dX10_readWeight_131 : decode cX10_readWeight 131 = .ok (.iconst 3, 1) := by decide +kernel
theorem dX10_readWeight_132 : decode cX10_readWeight 132 = .ok (.aload_n 0, 1) := by decide +kernel
theorem dX10_readWeight_133 : decode cX10_readWeight 133 = .ok (.iconst 0, 1) := by decide +kernel
theorem dX10_readWeight_134 : decode cX10_readWeight 134 = .ok (.iconst 2, 1) := by decide +kernel
theorem dX10_readWeight_135 : decode cX10_readWeight 135 = .ok (.invokevirtual 192, 3) := by decide +kernel
theorem dX10_readWeight_138 : decode cX10_readWeight 138 = .ok (.imul, 1) := by decide +kernel
theorem dX10_readWeight_139 : decode cX10_readWeight 139 = .ok (.iadd, 1) := by decide +kernel
theorem dX10_readWeight_140 : decode cX10_readWeight 140 = .ok (.istore_n 3, 1) := by decide +kernel
theorem dX10_readWeight_141 : decode cX10_readWeight 141 = .ok (.iload_n 3, 1) := by decide +kernel
theorem dX10_readWeight_142 : decode cX10_readWeight 142 = .ok (.aload_n 0, 1) := by decide +kernel
theorem dX10_readWeight_143 : decode cX10_readWeight 143 = .ok (.iconst 0, 1) := by decide +kernel
theorem dX10_readWeight_144 : decode cX10_readWeight 144 = .ok (.iconst 2, 1) := by decide +kernel
theorem dX10_readWeight_145 : decode cX10_readWeight 145 = .ok (.invokevirtual 192, 3) := by decide +kernel
theorem dX10_readWeight_148 : decode cX10_readWeight 148 = .ok (.iadd, 1) := by decide +kernel
theorem dX10_readWeight_149 : decode cX10_readWeight 149 = .ok (.istore_n 3, 1) := by decide +kernel
theorem dX10_readWeight_150 : decode cX10_readWeight 150 = .ok (.aload_n 0, 1) := by decide +kernel
theorem dX10_readWeight_151 : decode cX10_readWeight 151 = .ok (.iconst 0, 1) := by decide +kernel
theorem dX10_readWeight_152 : decode cX10_readWeight 152 = .ok (.bipush 99, 2) := by decide +kernel
theorem dX10_readWeight_154 : decode cX10_readWeight 154 = .ok (.invokevirtual 192, 3) := by decide +kernel
theorem dX10_readWeight_157 : decode cX10_readWeight 157 = .ok (.istore 4, 2) := by decide +kernel
theorem dX10_readWeight_159 : decode cX10_readWeight 159 = .ok (.aload_n 0, 1) := by decide +kernel
theorem dX10_readWeight_160 : decode cX10_readWeight 160 = .ok (.getfield 161, 3) := by decide +kernel
theorem dX10_readWeight_163 : decode cX10_readWeight 163 = .ok (.ifCond .ne 20, 3) := by decide +kernel
theorem dX10_readWeight_166 : decode cX10_readWeight 166 = .ok (.aload_n 0, 1) := by decide +kernel
theorem dX10_readWeight_167 : decode cX10_readWeight 167 = .ok (.aload_n 0, 1) := by decide +kernel
theorem dX10_readWeight_168 : decode cX10_readWeight 168 = .ok (.getfield 149, 3) := by decide +kernel
theorem dX10_readWeight_171 : decode cX10_readWeight 171 = .ok (.iconst 4, 1) := by decide +kernel
theorem dX10_readWeight_172 : decode cX10_readWeight 172 = .ok (.if_icmp .ne 7, 3) := by decide +kernel
theorem dX10_readWeight_175 : decode cX10_readWeight 175 = .ok (.iconst 1, 1) := by decide +kernel
theorem dX10_readWeight_176 : decode cX10_readWeight 176 = .ok (.goto 4, 3) := by decide +kernel
theorem dX10_readWeight_179 : decode cX10_readWeight 179 = .ok (.iconst 0, 1) := by decide +kernel
theorem dX10_readWeight_180 : decode cX10_readWeight 180 = .ok (.invokevirtual 174, 3) := by decide +kernel
theorem dX10_readWeight_183 : decode cX10_readWeight 183 = .ok (.aload_n 0, 1) := by decide +kernel
theorem dX10_readWeight_184 : decode cX10_readWeight 184 = .ok (.getfield 161, 3) := by decide +kernel
theorem dX10_readWeight_187 : decode cX10_readWeight 187 = .ok (.ifCond .ne 11, 3) := by decide +kernel
theorem dX10_readWeight_190 : decode cX10_readWeight 190 = .ok (.aload_n 0, 1) := by decide +kernel
theorem dX10_readWeight_191 : decode cX10_readWeight 191 = .ok (.getfield 34, 3) := by decide +kernel
theorem dX10_readWeight_194 : decode cX10_readWeight 194 = .ok (.iload_n 3, 1) := by decide +kernel
theorem dX10_readWeight_195 : decode cX10_readWeight 195 = .ok (.iload 4, 2) := by decide +kernel
theorem dX10_readWeight_197 : decode cX10_readWeight 197 = .ok (.iastore, 1) := by decide +kernel
theorem dX10_readWeight_198 : decode cX10_readWeight 198 = .ok (.return_, 1) := by decide +kernel
