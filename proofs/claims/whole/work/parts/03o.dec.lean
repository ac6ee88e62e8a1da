theorem dX10_makeRow_0 : decode cX10_makeRow 0 = .ok (.aload_n 0, 1) := by decide +kernel
theorem dX10_makeRow_1 : decode cX10_makeRow 1 = .ok (.getfield 19, 3) := by decide +kernel
theorem dX10_makeRow_4 : decode cX10_makeRow 4 = .ok (.iload_n 1, 1) := by decide +kernel
theorem dX10_makeRow_5 : decode cX10_makeRow 5 = .ok (.iconst 0, 1) := by decide +kernel
theorem dX10_makeRow_6 : decode cX10_makeRow 6 = .ok (.iastore, 1) := by decide +kernel
theorem dX10_makeRow_7 : decode cX10_makeRow 7 = .ok (.aload_n 0, 1) := by decide +kernel
theorem dX10_makeRow_8 : decode cX10_makeRow 8 = .ok (.lload_n 2, 1) := by decide +kernel
theorem dX10_makeRow_9 : decode cX10_makeRow 9 = .ok (.putfield 211, 3) := by decide +kernel
theorem dX10_makeRow_12 : decode cX10_makeRow 12 = .ok (.aload_n 0, 1) := by decide +kernel
theorem dX10_makeRow_13 : decode cX10_makeRow 13 = .ok (.iconst 0, 1) := by decide +kernel
theorem dX10_makeRow_14 : decode cX10_makeRow 14 = .ok (.putfield 219, 3) := by decide +kernel
theorem dX10_makeRow_17 : decode cX10_makeRow 17 = .ok (.aload_n 0, 1) := by decide +kernel
theorem dX10_makeRow_18 : decode cX10_makeRow 18 = .ok (.iconst 0, 1) := by decide +kernel
theorem dX10_makeRow_19 : decode cX10_makeRow 19 = .ok (.putfield 229, 3) := by decide +kernel
theorem dX10_makeRow_22 : decode cX10_makeRow 22 = .ok (.iconst 0, 1) := by decide +kernel
theorem dX10_makeRow_23 : decode cX10_makeRow 23 = .ok (.istore 5, 2) := by decide +kernel
theorem dX10_makeRow_25 : decode cX10_makeRow 25 = .ok (.iconst 0, 1) := by decide +kernel
theorem dX10_makeRow_26 : decode cX10_makeRow 26 = .ok (.istore 6, 2) := by decide +kernel
theorem dX10_makeRow_28 : decode cX10_makeRow 28 = .ok (.iconst 0, 1) := by decide +kernel
theorem dX10_makeRow_29 : decode cX10_makeRow 29 = .ok (.istore 7, 2) := by decide +kernel
theorem dX10_makeRow_31 : decode cX10_makeRow 31 = .ok (.iload 7, 2) := by decide +kernel
theorem dX10_makeRow_33 : decode cX10_makeRow 33 = .ok (.iload 4, 2) := by decide +kernel
theorem dX10_makeRow_35 : decode cX10_makeRow 35 = .ok (.if_icmp .ge 230, 3) := by decide +kernel
theorem dX10_makeRow_38 : decode cX10_makeRow 38 = .ok (.aload_n 0, 1) := by decide +kernel
theorem dX10_makeRow_39 : decode cX10_makeRow 39 = .ok (.iconst 0, 1) := by decide +kernel
theorem dX10_makeRow_40 : decode cX10_makeRow 40 = .ok (.iconst 0, 1) := by decide +kernel
theorem dX10_makeRow_41 : decode cX10_makeRow 41 = .ok (.bipush 9, 2) := by decide +kernel
theorem dX10_makeRow_43 : decode cX10_makeRow 43 = .ok (.iconst (-1), 1) := by decide +kernel
theorem dX10_makeRow_44 : decode cX10_makeRow 44 = .ok (.invokevirtual 232, 3) := by decide +kernel
theorem dX10_makeRow_47 : decode cX10_makeRow 47 = .ok (.istore 8, 2) := by decide +kernel
theorem dX10_makeRow_49 : decode cX10_makeRow 49 = .ok (.iload 5, 2) := by decide +kernel
theorem dX10_makeRow_51 : decode cX10_makeRow 51 = .ok (.iload 8, 2) := by decide +kernel
theorem dX10_makeRow_53 : decode cX10_makeRow 53 = .ok (.ldc 106, 2) := by decide +kernel
theorem dX10_makeRow_55 : decode cX10_makeRow 55 = .ok (.if_icmp .ne 7, 3) := by decide +kernel
theorem dX10_makeRow_58 : decode cX10_makeRow 58 = .ok (.iconst 1, 1) := by decide +kernel
theorem dX10_makeRow_59 : decode cX10_makeRow 59 = .ok (.goto 5, 3) := by decide +kernel
theorem dX10_makeRow_62 : decode cX10_makeRow 62 = .ok (.iload 8, 2) := by decide +kernel
theorem dX10_makeRow_64 : decode cX10_makeRow 64 = .ok (.iadd, 1) := by decide +kernel
theorem dX10_makeRow_65 : decode cX10_makeRow 65 = .ok (.istore 5, 2) := by decide +kernel
theorem dX10_makeRow_67 : decode cX10_makeRow 67 = .ok (.iload 5, 2) := by decide +kernel
theorem dX10_makeRow_69 : decode cX10_makeRow 69 = .ok (.sipush 9999, 3) := by decide +kernel
theorem dX10_makeRow_72 : decode cX10_makeRow 72 = .ok (.if_icmp .le 9, 3) := by decide +kernel
theorem dX10_makeRow_75 : decode cX10_makeRow 75 = .ok (.sipush 9999, 3) := by decide +kernel
theorem dX10_makeRow_78 : decode cX10_makeRow 78 = .ok (.goto 5, 3) := by decide +kernel
theorem dX10_makeRow_81 : decode cX10_makeRow 81 = .ok (.iload 5, 2) := by decide +kernel
theorem dX10_makeRow_83 : decode cX10_makeRow 83 = .ok (.istore 5, 2) := by decide +kernel
theorem dX10_makeRow_85 : decode cX10_makeRow 85 = .ok (.aload_n 0, 1) := by decide +kernel
theorem dX10_makeRow_86 : decode cX10_makeRow 86 = .ok (.iconst 1, 1) := by decide +kernel
theorem dX10_makeRow_87 : decode cX10_makeRow 87 = .ok (.bipush 10, 2) := by decide +kernel
theorem dX10_makeRow_89 : decode cX10_makeRow 89 = .ok (.bipush 10, 2) := by decide +kernel
theorem dX10_makeRow_91 : decode cX10_makeRow 91 = .ok (.aload_n 0, 1) := by decide +kernel
theorem dX10_makeRow_92 : decode cX10_makeRow 92 = .ok (.getfield 229, 3) := by decide +kernel
theorem dX10_makeRow_95 : decode cX10_makeRow 95 = .ok (.iadd, 1) := by decide +kernel
theorem dX10_makeRow_96 : decode cX10_makeRow 96 = .ok (.iconst 1, 1) := by decide +kernel
theorem dX10_makeRow_97 : decode cX10_makeRow 97 = .ok (.isub, 1) := by decide +kernel
theorem dX10_makeRow_98 : decode cX10_makeRow 98 = .ok (.aload_n 0, 1) := by decide +kernel
theorem dX10_makeRow_99 : decode cX10_makeRow 99 = .ok (.getfield 229, 3) := by decide +kernel
theorem dX10_makeRow_102 : decode cX10_makeRow 102 = .ok (.bipush 10, 2) := by decide +kernel
theorem dX10_makeRow_104 : decode cX10_makeRow 104 = .ok (.if_icmp .ge 8, 3) := by decide +kernel
theorem dX10_makeRow_107 : decode cX10_makeRow 107 = .ok (.bipush 20, 2) := by decide +kernel
theorem dX10_makeRow_109 : decode cX10_makeRow 109 = .ok (.goto 4, 3) := by decide +kernel
theorem dX10_makeRow_112 : decode cX10_makeRow 112 = .ok (.iconst (-1), 1) := by decide +kernel
theorem dX10_makeRow_113 : decode cX10_makeRow 113 = .ok (.invokevirtual 232, 3) := by decide +kernel
theorem dX10_makeRow_116 : decode cX10_makeRow 116 = .ok (.istore 9, 2) := by decide +kernel
theorem dX10_makeRow_118 : decode cX10_makeRow 118 = .ok (.iload 9, 2) := by decide +kernel
theorem dX10_makeRow_120 : decode cX10_makeRow 120 = .ok (.ldc 106, 2) := by decide +kernel
theorem dX10_makeRow_122 : decode cX10_makeRow 122 = .ok (.if_icmp .ne 7, 3) := by decide +kernel
theorem dX10_makeRow_125 : decode cX10_makeRow 125 = .ok (.iconst 0, 1) := by decide +kernel
theorem dX10_makeRow_126 : decode cX10_makeRow 126 = .ok (.goto 5, 3) := by decide +kernel
theorem dX10_makeRow_129 : decode cX10_makeRow 129 = .ok (.iload 9, 2) := by decide +kernel
theorem dX10_makeRow_131 : decode cX10_makeRow 131 = .ok (.istore 9, 2) := by decide +kernel
theorem dX10_makeRow_133 : decode cX10_makeRow 133 = .ok (.iload 9, 2) := by decide +kernel
theorem dX10_makeRow_135 : decode cX10_makeRow 135 = .ok (.aload_n 0, 1) := by decide +kernel
theorem dX10_makeRow_136 : decode cX10_makeRow 136 = .ok (.getfield 229, 3) := by decide +kernel
theorem dX10_makeRow_139 : decode cX10_makeRow 139 = .ok (.if_icmp .ge 13, 3) := by decide +kernel
theorem dX10_makeRow_142 : decode cX10_makeRow 142 = .ok (.aload_n 0, 1) := by decide +kernel
theorem dX10_makeRow_143 : decode cX10_makeRow 143 = .ok (.getfield 44, 3) := by decide +kernel
theorem dX10_makeRow_146 : decode cX10_makeRow 146 = .ok (.iload 9, 2) := by decide +kernel
theorem dX10_makeRow_148 : decode cX10_makeRow 148 = .ok (.iaload, 1) := by decide +kernel
theorem dX10_makeRow_149 : decode cX10_makeRow 149 = .ok (.goto 7, 3) := by decide +kernel
theorem dX10_makeRow_152 : decode cX10_makeRow 152 = .ok (.aload_n 0, 1) := by decide +kernel
theorem dX10_makeRow_153 : decode cX10_makeRow 153 = .ok (.invokevirtual 236, 3) := by decide +kernel
theorem dX10_makeRow_156 : decode cX10_makeRow 156 = .ok (.istore 10, 2) := by decide +kernel
theorem dX10_makeRow_158 : decode cX10_makeRow 158 = .ok (.aload_n 0, 1) := by decide +kernel
theorem dX10_makeRow_159 : decode cX10_makeRow 159 = .ok (.iload 10, 2) := by decide +kernel
theorem dX10_makeRow_161 : decode cX10_makeRow 161 = .ok (.invokevirtual 239, 3) := by decide +kernel
theorem dX10_makeRow_164 : decode cX10_makeRow 164 = .ok (.aload_n 0, 1) := by decide +kernel
theorem dX10_makeRow_165 : decode cX10_makeRow 165 = .ok (.iconst 2, 1) := by decide +kernel
theorem dX10_makeRow_166 : decode cX10_makeRow 166 = .ok (.bipush 31, 2) := by decide +kernel
theorem dX10_makeRow_168 : decode cX10_makeRow 168 = .ok (.bipush 39, 2) := by decide +kernel
theorem dX10_makeRow_170 : decode cX10_makeRow 170 = .ok (.iconst (-1), 1) := by decide +kernel
theorem dX10_makeRow_171 : decode cX10_makeRow 171 = .ok (.invokevirtual 232, 3) := by decide +kernel
theorem dX10_makeRow_174 : decode cX10_makeRow 174 = .ok (.istore 11, 2) := by decide +kernel
theorem dX10_makeRow_176 : decode cX10_makeRow 176 = .ok (.iload 11, 2) := by decide +kernel
theorem dX10_makeRow_178 : decode cX10_makeRow 178 = .ok (.ldc 106, 2) := by decide +kernel
theorem dX10_makeRow_180 : decode cX10_makeRow 180 = .ok (.if_icmp .ne 7, 3) := by decide +kernel
theorem dX10_makeRow_183 : decode cX10_makeRow 183 = .ok (.iconst 1, 1) := by decide +kernel
theorem dX10_makeRow_184 : decode cX10_makeRow 184 = .ok (.goto 7, 3) := by decide +kernel
theorem dX10_makeRow_187 : decode cX10_makeRow 187 = .ok (.iload 11, 2) := by decide +kernel
theorem dX10_makeRow_189 : decode cX10_makeRow 189 = .ok (.iconst 1, 1) := by decide +kernel
theorem dX10_makeRow_190 : decode cX10_makeRow 190 = .ok (.iadd, 1) := by decide +kernel
theorem dX10_makeRow_191 : decode cX10_makeRow 191 = .ok (.iload 6, 2) := by decide +kernel
theorem dX10_makeRow_193 : decode cX10_makeRow 193 = .ok (.iadd, 1) := by decide +kernel
theorem dX10_makeRow_194 : decode cX10_makeRow 194 = .ok (.istore 11, 2) := by decide +kernel
theorem dX10_makeRow_196 : decode cX10_makeRow 196 = .ok (.aload_n 0, 1) := by decide +kernel
theorem dX10_makeRow_197 : decode cX10_makeRow 197 = .ok (.iload_n 1, 1) := by decide +kernel
theorem dX10_makeRow_198 : decode cX10_makeRow 198 = .ok (.iload 5, 2) := by decide +kernel
theorem dX10_makeRow_200 : decode cX10_makeRow 200 = .ok (.iload 10, 2) := by decide +kernel
theorem dX10_makeRow_202 : decode cX10_makeRow 202 = .ok (.iload 11, 2) := by decide +kernel
theorem dX10_makeRow_204 : decode cX10_makeRow 204 = .ok (.bipush 9, 2) := by decide +kernel
theorem dX10_makeRow_206 : decode cX10_makeRow 206 = .ok (.if_icmp .le 8, 3) := by decide +kernel
theorem dX10_makeRow_209 : decode cX10_makeRow 209 = .ok (.bipush 9, 2) := by decide +kernel
theorem dX10_makeRow_211 : decode cX10_makeRow 211 = .ok (.goto 5, 3) := by decide +kernel
theorem dX10_makeRow_214 : decode cX10_makeRow 214 = .ok (.iload 11, 2) := by decide +kernel
theorem dX10_makeRow_216 : decode cX10_makeRow 216 = .ok (.invokevirtual 102, 3) := by decide +kernel
theorem dX10_makeRow_219 : decode cX10_makeRow 219 = .ok (.aload_n 0, 1) := by decide +kernel
theorem dX10_makeRow_220 : decode cX10_makeRow 220 = .ok (.iconst 3, 1) := by decide +kernel
theorem dX10_makeRow_221 : decode cX10_makeRow 221 = .ok (.bipush 40, 2) := by decide +kernel
theorem dX10_makeRow_223 : decode cX10_makeRow 223 = .ok (.iconst 3, 1) := by decide +kernel
theorem dX10_makeRow_224 : decode cX10_makeRow 224 = .ok (.iload 6, 2) := by decide +kernel
theorem dX10_makeRow_226 : decode cX10_makeRow 226 = .ok (.imul, 1) := by decide +kernel
theorem dX10_makeRow_227 : decode cX10_makeRow 227 = .ok (.iadd, 1) := by decide +kernel
theorem dX10_makeRow_228 : decode cX10_makeRow 228 = .ok (.bipush 40, 2) := by decide +kernel
theorem dX10_makeRow_230 : decode cX10_makeRow 230 = .ok (.iconst 3, 1) := by decide +kernel
theorem dX10_makeRow_231 : decode cX10_makeRow 231 = .ok (.iload 6, 2) := by decide +kernel
theorem dX10_makeRow_233 : decode cX10_makeRow 233 = .ok (.imul, 1) := by decide +kernel
theorem dX10_makeRow_234 : decode cX10_makeRow 234 = .ok (.iadd, 1) := by decide +kernel
theorem dX10_makeRow_235 : decode cX10_makeRow 235 = .ok (.iconst 2, 1) := by decide +kernel
theorem dX10_makeRow_236 : decode cX10_makeRow 236 = .ok (.iadd, 1) := by decide +kernel
theorem dX10_makeRow_237 : decode cX10_makeRow 237 = .ok (.iconst (-1), 1) := by decide +kernel
theorem dX10_makeRow_238 : decode cX10_makeRow 238 = .ok (.invokevirtual 232, 3) := by decide +kernel
theorem dX10_makeRow_241 : decode cX10_makeRow 241 = .ok (.istore 12, 2) := by decide +kernel
theorem dX10_makeRow_243 : decode cX10_makeRow 243 = .ok (.iload 12, 2) := by decide +kernel
theorem dX10_makeRow_245 : decode cX10_makeRow 245 = .ok (.ldc 106, 2) := by decide +kernel
theorem dX10_makeRow_247 : decode cX10_makeRow 247 = .ok (.if_icmp .ne 8, 3) := by decide +kernel
theorem dX10_makeRow_250 : decode cX10_makeRow 250 = .ok (.iload 6, 2) := by decide +kernel
theorem dX10_makeRow_252 : decode cX10_makeRow 252 = .ok (.goto 5, 3) := by decide +kernel
theorem dX10_makeRow_255 : decode cX10_makeRow 255 = .ok (.iload 12, 2) := by decide +kernel
theorem dX10_makeRow_257 : decode cX10_makeRow 257 = .ok (.istore 6, 2) := by decide +kernel
theorem dX10_makeRow_259 : decode cX10_makeRow 259 = .ok (.iinc 7 1, 3) := by decide +kernel
theorem dX10_makeRow_262 : decode cX10_makeRow 262 = .ok (.goto (-231), 3) := by decide +kernel
theorem dX10_makeRow_265 : decode cX10_makeRow 265 = .ok (.return_, 1) := by decide +kernel
theorem dX10_make_0 : decode cX10_make 0 = .ok (.aload_n 0, 1) := by decide +kernel
theorem dX10_make_1 : decode cX10_make 1 = .ok (.iconst 0, 1) := by decide +kernel
theorem dX10_make_2 : decode cX10_make 2 = .ok (.putfield 78, 3) := by decide +kernel
theorem dX10_make_5 : decode cX10_make 5 = .ok (.iload_n 3, 1) := by decide +kernel
theorem dX10_make_6 : decode cX10_make 6 = .ok (.i2l, 1) := by decide +kernel
theorem dX10_make_7 : decode cX10_make 7 = .ok (.lconst 0, 1) := by decide +kernel
theorem dX10_make_8 : decode cX10_make 8 = .ok (.ldc2_w 242, 3) := by decide +kernel
theorem dX10_make_11 : decode cX10_make 11 = .ok (.invokestatic 87, 3) := by decide +kernel
theorem dX10_make_14 : decode cX10_make 14 = .ok (.ifCond .ne 6, 3) := by decide +kernel
theorem dX10_make_17 : decode cX10_make 17 = .ok (.ldc 97, 2) := by decide +kernel
theorem dX10_make_19 : decode cX10_make 19 = .ok (.ireturn, 1) := by decide +kernel
theorem dX10_make_20 : decode cX10_make 20 = .ok (.aload_n 0, 1) := by decide +kernel
theorem dX10_make_21 : decode cX10_make 21 = .ok (.iconst 1, 1) := by decide +kernel
theorem dX10_make_22 : decode cX10_make 22 = .ok (.lload_n 1, 1) := by decide +kernel
theorem dX10_make_23 : decode cX10_make 23 = .ok (.iload_n 3, 1) := by decide +kernel
theorem dX10_make_24 : decode cX10_make 24 = .ok (.invokevirtual 244, 3) := by decide +kernel
theorem dX10_make_27 : decode cX10_make 27 = .ok (.aload_n 0, 1) := by decide +kernel
theorem dX10_make_28 : decode cX10_make 28 = .ok (.iconst 1, 1) := by decide +kernel
theorem dX10_make_29 : decode cX10_make 29 = .ok (.putfield 248, 3) := by decide +kernel
theorem dX10_make_32 : decode cX10_make 32 = .ok (.aload_n 0, 1) := by decide +kernel
theorem dX10_make_33 : decode cX10_make 33 = .ok (.lload_n 1, 1) := by decide +kernel
theorem dX10_make_34 : decode cX10_make 34 = .ok (.putfield 252, 3) := by decide +kernel
theorem dX10_make_37 : decode cX10_make 37 = .ok (.aload_n 0, 1) := by decide +kernel
theorem dX10_make_38 : decode cX10_make 38 = .ok (.getfield 219, 3) := by decide +kernel
theorem dX10_make_41 : decode cX10_make 41 = .ok (.ireturn, 1) := by decide +kernel
theorem dX10_stretch_0 : decode cX10_stretch 0 = .ok (.aload_n 0, 1) := by decide +kernel
theorem dX10_stretch_1 : decode cX10_stretch 1 = .ok (.iconst 0, 1) := by decide +kernel
theorem dX10_stretch_2 : decode cX10_stretch 2 = .ok (.putfield 78, 3) := by decide +kernel
theorem dX10_stretch_5 : decode cX10_stretch 5 = .ok (.iload_n 1, 1) := by decide +kernel
theorem dX10_stretch_6 : decode cX10_stretch 6 = .ok (.i2l, 1) := by decide +kernel
theorem dX10_stretch_7 : decode cX10_stretch 7 = .ok (.lconst 1, 1) := by decide +kernel
theorem dX10_stretch_8 : decode cX10_stretch 8 = .ok (.ldc2_w 114, 3) := by decide +kernel
theorem dX10_stretch_11 : decode cX10_stretch 11 = .ok (.invokestatic 87, 3) := by decide +kernel
theorem dX10_stretch_14 : decode cX10_stretch 14 = .ok (.ifCond .ne 6, 3) := by decide +kernel
theorem dX10_stretch_17 : decode cX10_stretch 17 = .ok (.ldc 97, 2) := by decide +kernel
theorem dX10_stretch_19 : decode cX10_stretch 19 = .ok (.ireturn, 1) := by decide +kernel
theorem dX10_stretch_20 : decode cX10_stretch 20 = .ok (.aload_n 0, 1) := by decide +kernel
theorem dX10_stretch_21 : decode cX10_stretch 21 = .ok (.getfield 19, 3) := by decide +kernel
theorem dX10_stretch_24 : decode cX10_stretch 24 = .ok (.iconst 1, 1) := by decide +kernel
theorem dX10_stretch_25 : decode cX10_stretch 25 = .ok (.iconst 0, 1) := by decide +kernel
theorem dX10_stretch_26 : decode cX10_stretch 26 = .ok (.iastore, 1) := by decide +kernel
theorem dX10_stretch_27 : decode cX10_stretch 27 = .ok (.aload_n 0, 1) := by decide +kernel
theorem dX10_stretch_28 : decode cX10_stretch 28 = .ok (.iconst 0, 1) := by decide +kernel
theorem dX10_stretch_29 : decode cX10_stretch 29 = .ok (.putfield 248, 3) := by decide +kernel
theorem dX10_stretch_32 : decode cX10_stretch 32 = .ok (.iconst 0, 1) := by decide +kernel
theorem dX10_stretch_33 : decode cX10_stretch 33 = .ok (.istore_n 2, 1) := by decide +kernel
theorem dX10_stretch_34 : decode cX10_stretch 34 = .ok (.iload_n 2, 1) := by decide +kernel
theorem dX10_stretch_35 : decode cX10_stretch 35 = .ok (.iload_n 1, 1) := by decide +kernel
theorem dX10_stretch_36 : decode cX10_stretch 36 = .ok (.aload_n 0, 1) := by decide +kernel
theorem dX10_stretch_37 : decode cX10_stretch 37 = .ok (.getfield 19, 3) := by decide +kernel
theorem dX10_stretch_40 : decode cX10_stretch 40 = .ok (.iconst 0, 1) := by decide +kernel
theorem dX10_stretch_41 : decode cX10_stretch 41 = .ok (.iaload, 1) := by decide +kernel
theorem dX10_stretch_42 : decode cX10_stretch 42 = .ok (.imul, 1) := by decide +kernel
theorem dX10_stretch_43 : decode cX10_stretch 43 = .ok (.if_icmp .ge 49, 3) := by decide +kernel
theorem dX10_stretch_46 : decode cX10_stretch 46 = .ok (.iload_n 2, 1) := by decide +kernel
theorem dX10_stretch_47 : decode cX10_stretch 47 = .ok (.bipush 40, 2) := by decide +kernel
theorem dX10_stretch_49 : decode cX10_stretch 49 = .ok (.if_icmp .ge 43, 3) := by decide +kernel
theorem dX10_stretch_52 : decode cX10_stretch 52 = .ok (.iload_n 2, 1) := by decide +kernel
theorem dX10_stretch_53 : decode cX10_stretch 53 = .ok (.iload_n 1, 1) := by decide +kernel
theorem dX10_stretch_54 : decode cX10_stretch 54 = .ok (.idiv, 1) := by decide +kernel
theorem dX10_stretch_55 : decode cX10_stretch 55 = .ok (.istore_n 3, 1) := by decide +kernel
theorem dX10_stretch_56 : decode cX10_stretch 56 = .ok (.aload_n 0, 1) := by decide +kernel
theorem dX10_stretch_57 : decode cX10_stretch 57 = .ok (.iconst 1, 1) := by decide +kernel
theorem dX10_stretch_58 : decode cX10_stretch 58 = .ok (.aload_n 0, 1) := by decide +kernel
theorem dX10_stretch_59 : decode cX10_stretch 59 = .ok (.getfield 22, 3) := by decide +kernel
theorem dX10_stretch_62 : decode cX10_stretch 62 = .ok (.iload_n 3, 1) := by decide +kernel
theorem dX10_stretch_63 : decode cX10_stretch 63 = .ok (.iaload, 1) := by decide +kernel
theorem dX10_stretch_64 : decode cX10_stretch 64 = .ok (.aload_n 0, 1) := by decide +kernel
theorem dX10_stretch_65 : decode cX10_stretch 65 = .ok (.getfield 25, 3) := by decide +kernel
theorem dX10_stretch_68 : decode cX10_stretch 68 = .ok (.iload_n 3, 1) := by decide +kernel
theorem dX10_stretch_69 : decode cX10_stretch 69 = .ok (.iaload, 1) := by decide +kernel
theorem dX10_stretch_70 : decode cX10_stretch 70 = .ok (.iload_n 2, 1) := by decide +kernel
theorem dX10_stretch_71 : decode cX10_stretch 71 = .ok (.iload_n 1, 1) := by decide +kernel
theorem dX10_stretch_72 : decode cX10_stretch 72 = .ok (.irem, 1) := by decide +kernel
theorem dX10_stretch_73 : decode cX10_stretch 73 = .ok (.iadd, 1) := by decide +kernel
theorem dX10_stretch_74 : decode cX10_stretch 74 = .ok (.bipush 10, 2) := by decide +kernel
theorem dX10_stretch_76 : decode cX10_stretch 76 = .ok (.irem, 1) := by decide +kernel
theorem dX10_stretch_77 : decode cX10_stretch 77 = .ok (.aload_n 0, 1) := by decide +kernel
theorem dX10_stretch_78 : decode cX10_stretch 78 = .ok (.getfield 28, 3) := by decide +kernel
theorem dX10_stretch_81 : decode cX10_stretch 81 = .ok (.iload_n 3, 1) := by decide +kernel
theorem dX10_stretch_82 : decode cX10_stretch 82 = .ok (.iaload, 1) := by decide +kernel
theorem dX10_stretch_83 : decode cX10_stretch 83 = .ok (.invokevirtual 102, 3) := by decide +kernel
theorem dX10_stretch_86 : decode cX10_stretch 86 = .ok (.iinc 2 1, 3) := by decide +kernel
theorem dX10_stretch_89 : decode cX10_stretch 89 = .ok (.goto (-55), 3) := by decide +kernel
theorem dX10_stretch_92 : decode cX10_stretch 92 = .ok (.aload_n 0, 1) := by decide +kernel
theorem dX10_stretch_93 : decode cX10_stretch 93 = .ok (.getfield 19, 3) := by decide +kernel
theorem dX10_stretch_96 : decode cX10_stretch 96 = .ok (.iconst 1, 1) := by decide +kernel
theorem dX10_stretch_97 : decode cX10_stretch 97 = .ok (.iaload, 1) := by decide +kernel
theorem dX10_stretch_98 : decode cX10_stretch 98 = .ok (.ireturn, 1) := by decide +kernel
theorem dX10_house_0 : decode cX10_house 0 = .ok (.aload_n 0, 1) := by decide +kernel
theorem dX10_house_1 : decode cX10_house 1 = .ok (.iconst 0, 1) := by decide +kernel
theorem dX10_house_2 : decode cX10_house 2 = .ok (.putfield 78, 3) := by decide +kernel
theorem dX10_house_5 : decode cX10_house 5 = .ok (.iload_n 1, 1) := by decide +kernel
theorem dX10_house_6 : decode cX10_house 6 = .ok (.i2l, 1) := by decide +kernel
theorem dX10_house_7 : decode cX10_house 7 = .ok (.lconst 1, 1) := by decide +kernel
theorem dX10_house_8 : decode cX10_house 8 = .ok (.ldc2_w 255, 3) := by decide +kernel
theorem dX10_house_11 : decode cX10_house 11 = .ok (.invokestatic 87, 3) := by decide +kernel
theorem dX10_house_14 : decode cX10_house 14 = .ok (.ifCond .eq 27, 3) := by decide +kernel
theorem dX10_house_17 : decode cX10_house 17 = .ok (.iload_n 2, 1) := by decide +kernel
theorem dX10_house_18 : decode cX10_house 18 = .ok (.i2l, 1) := by decide +kernel
theorem dX10_house_19 : decode cX10_house 19 = .ok (.lconst 1, 1) := by decide +kernel
theorem dX10_house_20 : decode cX10_house 20 = .ok (.ldc2_w 112, 3) := by decide +kernel
theorem dX10_house_23 : decode cX10_house 23 = .ok (.invokestatic 87, 3) := by decide +kernel
theorem dX10_house_26 : decode cX10_house 26 = .ok (.ifCond .eq 15, 3) := by decide +kernel
theorem dX10_house_29 : decode cX10_house 29 = .ok (.iload_n 3, 1) := by decide +kernel
theorem dX10_house_30 : decode cX10_house 30 = .ok (.i2l, 1) := by decide +kernel
theorem dX10_house_31 : decode cX10_house 31 = .ok (.lconst 0, 1) := by decide +kernel
theorem dX10_house_32 : decode cX10_house 32 = .ok (.ldc2_w 257, 3) := by decide +kernel
theorem dX10_house_35 : decode cX10_house 35 = .ok (.invokestatic 87, 3) := by decide +kernel
theorem dX10_house_38 : decode cX10_house 38 = .ok (.ifCond .ne 6, 3) := by decide +kernel
theorem dX10_house_41 : decode cX10_house 41 = .ok (.ldc 97, 2) := by decide +kernel
theorem dX10_house_43 : decode cX10_house 43 = .ok (.ireturn, 1) := by decide +kernel
theorem dX10_house_44 : decode cX10_house 44 = .ok (.aload_n 0, 1) := by decide +kernel
theorem dX10_house_45 : decode cX10_house 45 = .ok (.iload_n 1, 1) := by decide +kernel
theorem dX10_house_46 : decode cX10_house 46 = .ok (.putfield 47, 3) := by decide +kernel
theorem dX10_house_49 : decode cX10_house 49 = .ok (.aload_n 0, 1) := by decide +kernel
theorem dX10_house_50 : decode cX10_house 50 = .ok (.iload_n 2, 1) := by decide +kernel
theorem dX10_house_51 : decode cX10_house 51 = .ok (.putfield 51, 3) := by decide +kernel
theorem dX10_house_54 : decode cX10_house 54 = .ok (.aload_n 0, 1) := by decide +kernel
theorem dX10_house_55 : decode cX10_house 55 = .ok (.iload_n 3, 1) := by decide +kernel
theorem dX10_house_56 : decode cX10_house 56 = .ok (.putfield 54, 3) := by decide +kernel
theorem dX10_house_59 : decode cX10_house 59 = .ok (.iconst 1, 1) := by decide +kernel
theorem dX10_house_60 : decode cX10_house 60 = .ok (.ireturn, 1) := by decide +kernel
