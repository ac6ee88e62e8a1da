theorem dX10_asks_0 : decode cX10_asks 0 = .ok (.aload_n 0, 1) := by decide +kernel
theorem dX10_asks_1 : decode cX10_asks 1 = .ok (.iconst 0, 1) := by decide +kernel
theorem dX10_asks_2 : decode cX10_asks 2 = .ok (.putfield 78, 3) := by decide +kernel
theorem dX10_asks_5 : decode cX10_asks 5 = .ok (.iload_n 1, 1) := by decide +kernel
theorem dX10_asks_6 : decode cX10_asks 6 = .ok (.invokestatic 91, 3) := by decide +kernel
theorem dX10_asks_9 : decode cX10_asks 9 = .ok (.ifCond .eq 15, 3) := by decide +kernel
theorem dX10_asks_12 : decode cX10_asks 12 = .ok (.iload_n 3, 1) := by decide +kernel
theorem dX10_asks_13 : decode cX10_asks 13 = .ok (.i2l, 1) := by decide +kernel
theorem dX10_asks_14 : decode cX10_asks 14 = .ok (.lconst 1, 1) := by decide +kernel
theorem dX10_asks_15 : decode cX10_asks 15 = .ok (.ldc2_w 107, 3) := by decide +kernel
theorem dX10_asks_18 : decode cX10_asks 18 = .ok (.invokestatic 87, 3) := by decide +kernel
theorem dX10_asks_21 : decode cX10_asks 21 = .ok (.ifCond .ne 6, 3) := by decide +kernel
theorem dX10_asks_24 : decode cX10_asks 24 = .ok (.ldc 97, 2) := by decide +kernel
theorem dX10_asks_26 : decode cX10_asks 26 = .ok (.ireturn, 1) := by decide +kernel
theorem dX10_asks_27 : decode cX10_asks 27 = .ok (.aload_n 0, 1) := by decide +kernel
theorem dX10_asks_28 : decode cX10_asks 28 = .ok (.getfield 19, 3) := by decide +kernel
theorem dX10_asks_31 : decode cX10_asks 31 = .ok (.iconst 0, 1) := by decide +kernel
theorem dX10_asks_32 : decode cX10_asks 32 = .ok (.iaload, 1) := by decide +kernel
theorem dX10_asks_33 : decode cX10_asks 33 = .ok (.iload_n 3, 1) := by decide +kernel
theorem dX10_asks_34 : decode cX10_asks 34 = .ok (.iadd, 1) := by decide +kernel
theorem dX10_asks_35 : decode cX10_asks 35 = .ok (.bipush 40, 2) := by decide +kernel
theorem dX10_asks_37 : decode cX10_asks 37 = .ok (.if_icmp .le 6, 3) := by decide +kernel
theorem dX10_asks_40 : decode cX10_asks 40 = .ok (.ldc 109, 2) := by decide +kernel
theorem dX10_asks_42 : decode cX10_asks 42 = .ok (.ireturn, 1) := by decide +kernel
theorem dX10_asks_43 : decode cX10_asks 43 = .ok (.aload_n 0, 1) := by decide +kernel
theorem dX10_asks_44 : decode cX10_asks 44 = .ok (.getfield 7, 3) := by decide +kernel
theorem dX10_asks_47 : decode cX10_asks 47 = .ok (.iload_n 1, 1) := by decide +kernel
theorem dX10_asks_48 : decode cX10_asks 48 = .ok (.iaload, 1) := by decide +kernel
theorem dX10_asks_49 : decode cX10_asks 49 = .ok (.ifCond .ge 9, 3) := by decide +kernel
theorem dX10_asks_52 : decode cX10_asks 52 = .ok (.aload_n 0, 1) := by decide +kernel
theorem dX10_asks_53 : decode cX10_asks 53 = .ok (.iconst 1, 1) := by decide +kernel
theorem dX10_asks_54 : decode cX10_asks 54 = .ok (.invokevirtual 98, 3) := by decide +kernel
theorem dX10_asks_57 : decode cX10_asks 57 = .ok (.ireturn, 1) := by decide +kernel
theorem dX10_asks_58 : decode cX10_asks 58 = .ok (.iload_n 2, 1) := by decide +kernel
theorem dX10_asks_59 : decode cX10_asks 59 = .ok (.ifCond .lt 21, 3) := by decide +kernel
theorem dX10_asks_62 : decode cX10_asks 62 = .ok (.iload_n 2, 1) := by decide +kernel
theorem dX10_asks_63 : decode cX10_asks 63 = .ok (.i2l, 1) := by decide +kernel
theorem dX10_asks_64 : decode cX10_asks 64 = .ok (.iconst 3, 1) := by decide +kernel
theorem dX10_asks_65 : decode cX10_asks 65 = .ok (.iload_n 3, 1) := by decide +kernel
theorem dX10_asks_66 : decode cX10_asks 66 = .ok (.imul, 1) := by decide +kernel
theorem dX10_asks_67 : decode cX10_asks 67 = .ok (.i2l, 1) := by decide +kernel
theorem dX10_asks_68 : decode cX10_asks 68 = .ok (.ladd, 1) := by decide +kernel
theorem dX10_asks_69 : decode cX10_asks 69 = .ok (.aload_n 0, 1) := by decide +kernel
theorem dX10_asks_70 : decode cX10_asks 70 = .ok (.getfield 13, 3) := by decide +kernel
theorem dX10_asks_73 : decode cX10_asks 73 = .ok (.iload_n 1, 1) := by decide +kernel
theorem dX10_asks_74 : decode cX10_asks 74 = .ok (.iaload, 1) := by decide +kernel
theorem dX10_asks_75 : decode cX10_asks 75 = .ok (.i2l, 1) := by decide +kernel
theorem dX10_asks_76 : decode cX10_asks 76 = .ok (.lcmp, 1) := by decide +kernel
theorem dX10_asks_77 : decode cX10_asks 77 = .ok (.ifCond .le 9, 3) := by decide +kernel
theorem dX10_asks_80 : decode cX10_asks 80 = .ok (.aload_n 0, 1) := by decide +kernel
theorem dX10_asks_81 : decode cX10_asks 81 = .ok (.iconst 2, 1) := by decide +kernel
theorem dX10_asks_82 : decode cX10_asks 82 = .ok (.invokevirtual 98, 3) := by decide +kernel
theorem dX10_asks_85 : decode cX10_asks 85 = .ok (.ireturn, 1) := by decide +kernel
theorem dX10_asks_86 : decode cX10_asks 86 = .ok (.aload_n 0, 1) := by decide +kernel
theorem dX10_asks_87 : decode cX10_asks 87 = .ok (.getfield 19, 3) := by decide +kernel
theorem dX10_asks_90 : decode cX10_asks 90 = .ok (.iconst 0, 1) := by decide +kernel
theorem dX10_asks_91 : decode cX10_asks 91 = .ok (.iaload, 1) := by decide +kernel
theorem dX10_asks_92 : decode cX10_asks 92 = .ok (.ifCond .ne 7, 3) := by decide +kernel
theorem dX10_asks_95 : decode cX10_asks 95 = .ok (.iconst 0, 1) := by decide +kernel
theorem dX10_asks_96 : decode cX10_asks 96 = .ok (.goto 16, 3) := by decide +kernel
theorem dX10_asks_99 : decode cX10_asks 99 = .ok (.aload_n 0, 1) := by decide +kernel
theorem dX10_asks_100 : decode cX10_asks 100 = .ok (.getfield 22, 3) := by decide +kernel
theorem dX10_asks_103 : decode cX10_asks 103 = .ok (.aload_n 0, 1) := by decide +kernel
theorem dX10_asks_104 : decode cX10_asks 104 = .ok (.getfield 19, 3) := by decide +kernel
theorem dX10_asks_107 : decode cX10_asks 107 = .ok (.iconst 0, 1) := by decide +kernel
theorem dX10_asks_108 : decode cX10_asks 108 = .ok (.iaload, 1) := by decide +kernel
theorem dX10_asks_109 : decode cX10_asks 109 = .ok (.iconst 1, 1) := by decide +kernel
theorem dX10_asks_110 : decode cX10_asks 110 = .ok (.isub, 1) := by decide +kernel
theorem dX10_asks_111 : decode cX10_asks 111 = .ok (.iaload, 1) := by decide +kernel
theorem dX10_asks_112 : decode cX10_asks 112 = .ok (.istore 4, 2) := by decide +kernel
theorem dX10_asks_114 : decode cX10_asks 114 = .ok (.bipush 60, 2) := by decide +kernel
theorem dX10_asks_116 : decode cX10_asks 116 = .ok (.iload_n 1, 1) := by decide +kernel
theorem dX10_asks_117 : decode cX10_asks 117 = .ok (.imul, 1) := by decide +kernel
theorem dX10_asks_118 : decode cX10_asks 118 = .ok (.iload_n 2, 1) := by decide +kernel
theorem dX10_asks_119 : decode cX10_asks 119 = .ok (.iadd, 1) := by decide +kernel
theorem dX10_asks_120 : decode cX10_asks 120 = .ok (.istore 5, 2) := by decide +kernel
theorem dX10_asks_122 : decode cX10_asks 122 = .ok (.iload 5, 2) := by decide +kernel
theorem dX10_asks_124 : decode cX10_asks 124 = .ok (.bipush 60, 2) := by decide +kernel
theorem dX10_asks_126 : decode cX10_asks 126 = .ok (.iload_n 1, 1) := by decide +kernel
theorem dX10_asks_127 : decode cX10_asks 127 = .ok (.imul, 1) := by decide +kernel
theorem dX10_asks_128 : decode cX10_asks 128 = .ok (.iload_n 2, 1) := by decide +kernel
theorem dX10_asks_129 : decode cX10_asks 129 = .ok (.iadd, 1) := by decide +kernel
theorem dX10_asks_130 : decode cX10_asks 130 = .ok (.iconst 3, 1) := by decide +kernel
theorem dX10_asks_131 : decode cX10_asks 131 = .ok (.iload_n 3, 1) := by decide +kernel
theorem dX10_asks_132 : decode cX10_asks 132 = .ok (.imul, 1) := by decide +kernel
theorem dX10_asks_133 : decode cX10_asks 133 = .ok (.iadd, 1) := by decide +kernel
theorem dX10_asks_134 : decode cX10_asks 134 = .ok (.if_icmp .ge 81, 3) := by decide +kernel
theorem dX10_asks_137 : decode cX10_asks 137 = .ok (.aload_n 0, 1) := by decide +kernel
theorem dX10_asks_138 : decode cX10_asks 138 = .ok (.getfield 16, 3) := by decide +kernel
theorem dX10_asks_141 : decode cX10_asks 141 = .ok (.iload 5, 2) := by decide +kernel
theorem dX10_asks_143 : decode cX10_asks 143 = .ok (.iaload, 1) := by decide +kernel
theorem dX10_asks_144 : decode cX10_asks 144 = .ok (.i2l, 1) := by decide +kernel
theorem dX10_asks_145 : decode cX10_asks 145 = .ok (.iload 4, 2) := by decide +kernel
theorem dX10_asks_147 : decode cX10_asks 147 = .ok (.i2l, 1) := by decide +kernel
theorem dX10_asks_148 : decode cX10_asks 148 = .ok (.ldc2_w 110, 3) := by decide +kernel
theorem dX10_asks_151 : decode cX10_asks 151 = .ok (.invokestatic 87, 3) := by decide +kernel
theorem dX10_asks_154 : decode cX10_asks 154 = .ok (.ifCond .eq 43, 3) := by decide +kernel
theorem dX10_asks_157 : decode cX10_asks 157 = .ok (.aload_n 0, 1) := by decide +kernel
theorem dX10_asks_158 : decode cX10_asks 158 = .ok (.getfield 16, 3) := by decide +kernel
theorem dX10_asks_161 : decode cX10_asks 161 = .ok (.iload 5, 2) := by decide +kernel
theorem dX10_asks_163 : decode cX10_asks 163 = .ok (.iconst 1, 1) := by decide +kernel
theorem dX10_asks_164 : decode cX10_asks 164 = .ok (.iadd, 1) := by decide +kernel
theorem dX10_asks_165 : decode cX10_asks 165 = .ok (.iaload, 1) := by decide +kernel
theorem dX10_asks_166 : decode cX10_asks 166 = .ok (.i2l, 1) := by decide +kernel
theorem dX10_asks_167 : decode cX10_asks 167 = .ok (.lconst 0, 1) := by decide +kernel
theorem dX10_asks_168 : decode cX10_asks 168 = .ok (.ldc2_w 112, 3) := by decide +kernel
theorem dX10_asks_171 : decode cX10_asks 171 = .ok (.invokestatic 87, 3) := by decide +kernel
theorem dX10_asks_174 : decode cX10_asks 174 = .ok (.ifCond .eq 23, 3) := by decide +kernel
theorem dX10_asks_177 : decode cX10_asks 177 = .ok (.aload_n 0, 1) := by decide +kernel
theorem dX10_asks_178 : decode cX10_asks 178 = .ok (.getfield 16, 3) := by decide +kernel
theorem dX10_asks_181 : decode cX10_asks 181 = .ok (.iload 5, 2) := by decide +kernel
theorem dX10_asks_183 : decode cX10_asks 183 = .ok (.iconst 2, 1) := by decide +kernel
theorem dX10_asks_184 : decode cX10_asks 184 = .ok (.iadd, 1) := by decide +kernel
theorem dX10_asks_185 : decode cX10_asks 185 = .ok (.iaload, 1) := by decide +kernel
theorem dX10_asks_186 : decode cX10_asks 186 = .ok (.i2l, 1) := by decide +kernel
theorem dX10_asks_187 : decode cX10_asks 187 = .ok (.lconst 1, 1) := by decide +kernel
theorem dX10_asks_188 : decode cX10_asks 188 = .ok (.ldc2_w 112, 3) := by decide +kernel
theorem dX10_asks_191 : decode cX10_asks 191 = .ok (.invokestatic 87, 3) := by decide +kernel
theorem dX10_asks_194 : decode cX10_asks 194 = .ok (.ifCond .ne 6, 3) := by decide +kernel
theorem dX10_asks_197 : decode cX10_asks 197 = .ok (.ldc 97, 2) := by decide +kernel
theorem dX10_asks_199 : decode cX10_asks 199 = .ok (.ireturn, 1) := by decide +kernel
theorem dX10_asks_200 : decode cX10_asks 200 = .ok (.aload_n 0, 1) := by decide +kernel
theorem dX10_asks_201 : decode cX10_asks 201 = .ok (.getfield 16, 3) := by decide +kernel
theorem dX10_asks_204 : decode cX10_asks 204 = .ok (.iload 5, 2) := by decide +kernel
theorem dX10_asks_206 : decode cX10_asks 206 = .ok (.iaload, 1) := by decide +kernel
theorem dX10_asks_207 : decode cX10_asks 207 = .ok (.istore 4, 2) := by decide +kernel
theorem dX10_asks_209 : decode cX10_asks 209 = .ok (.iinc 5 3, 3) := by decide +kernel
theorem dX10_asks_212 : decode cX10_asks 212 = .ok (.goto (-90), 3) := by decide +kernel
theorem dX10_asks_215 : decode cX10_asks 215 = .ok (.aload_n 0, 1) := by decide +kernel
theorem dX10_asks_216 : decode cX10_asks 216 = .ok (.iconst 0, 1) := by decide +kernel
theorem dX10_asks_217 : decode cX10_asks 217 = .ok (.putfield 81, 3) := by decide +kernel
theorem dX10_asks_220 : decode cX10_asks 220 = .ok (.bipush 60, 2) := by decide +kernel
theorem dX10_asks_222 : decode cX10_asks 222 = .ok (.iload_n 1, 1) := by decide +kernel
theorem dX10_asks_223 : decode cX10_asks 223 = .ok (.imul, 1) := by decide +kernel
theorem dX10_asks_224 : decode cX10_asks 224 = .ok (.iload_n 2, 1) := by decide +kernel
theorem dX10_asks_225 : decode cX10_asks 225 = .ok (.iadd, 1) := by decide +kernel
theorem dX10_asks_226 : decode cX10_asks 226 = .ok (.istore 5, 2) := by decide +kernel
theorem dX10_asks_228 : decode cX10_asks 228 = .ok (.iload 5, 2) := by decide +kernel
theorem dX10_asks_230 : decode cX10_asks 230 = .ok (.bipush 60, 2) := by decide +kernel
theorem dX10_asks_232 : decode cX10_asks 232 = .ok (.iload_n 1, 1) := by decide +kernel
theorem dX10_asks_233 : decode cX10_asks 233 = .ok (.imul, 1) := by decide +kernel
theorem dX10_asks_234 : decode cX10_asks 234 = .ok (.iload_n 2, 1) := by decide +kernel
theorem dX10_asks_235 : decode cX10_asks 235 = .ok (.iadd, 1) := by decide +kernel
theorem dX10_asks_236 : decode cX10_asks 236 = .ok (.iconst 3, 1) := by decide +kernel
theorem dX10_asks_237 : decode cX10_asks 237 = .ok (.iload_n 3, 1) := by decide +kernel
theorem dX10_asks_238 : decode cX10_asks 238 = .ok (.imul, 1) := by decide +kernel
theorem dX10_asks_239 : decode cX10_asks 239 = .ok (.iadd, 1) := by decide +kernel
theorem dX10_asks_240 : decode cX10_asks 240 = .ok (.if_icmp .ge 39, 3) := by decide +kernel
theorem dX10_asks_243 : decode cX10_asks 243 = .ok (.aload_n 0, 1) := by decide +kernel
theorem dX10_asks_244 : decode cX10_asks 244 = .ok (.iconst 0, 1) := by decide +kernel
theorem dX10_asks_245 : decode cX10_asks 245 = .ok (.aload_n 0, 1) := by decide +kernel
theorem dX10_asks_246 : decode cX10_asks 246 = .ok (.getfield 16, 3) := by decide +kernel
theorem dX10_asks_249 : decode cX10_asks 249 = .ok (.iload 5, 2) := by decide +kernel
theorem dX10_asks_251 : decode cX10_asks 251 = .ok (.iaload, 1) := by decide +kernel
theorem dX10_asks_252 : decode cX10_asks 252 = .ok (.aload_n 0, 1) := by decide +kernel
theorem dX10_asks_253 : decode cX10_asks 253 = .ok (.getfield 16, 3) := by decide +kernel
theorem dX10_asks_256 : decode cX10_asks 256 = .ok (.iload 5, 2) := by decide +kernel
theorem dX10_asks_258 : decode cX10_asks 258 = .ok (.iconst 1, 1) := by decide +kernel
theorem dX10_asks_259 : decode cX10_asks 259 = .ok (.iadd, 1) := by decide +kernel
theorem dX10_asks_260 : decode cX10_asks 260 = .ok (.iaload, 1) := by decide +kernel
theorem dX10_asks_261 : decode cX10_asks 261 = .ok (.aload_n 0, 1) := by decide +kernel
theorem dX10_asks_262 : decode cX10_asks 262 = .ok (.getfield 16, 3) := by decide +kernel
theorem dX10_asks_265 : decode cX10_asks 265 = .ok (.iload 5, 2) := by decide +kernel
theorem dX10_asks_267 : decode cX10_asks 267 = .ok (.iconst 2, 1) := by decide +kernel
theorem dX10_asks_268 : decode cX10_asks 268 = .ok (.iadd, 1) := by decide +kernel
theorem dX10_asks_269 : decode cX10_asks 269 = .ok (.iaload, 1) := by decide +kernel
theorem dX10_asks_270 : decode cX10_asks 270 = .ok (.invokevirtual 102, 3) := by decide +kernel
theorem dX10_asks_273 : decode cX10_asks 273 = .ok (.iinc 5 3, 3) := by decide +kernel
theorem dX10_asks_276 : decode cX10_asks 276 = .ok (.goto (-48), 3) := by decide +kernel
theorem dX10_asks_279 : decode cX10_asks 279 = .ok (.aload_n 0, 1) := by decide +kernel
theorem dX10_asks_280 : decode cX10_asks 280 = .ok (.getfield 19, 3) := by decide +kernel
theorem dX10_asks_283 : decode cX10_asks 283 = .ok (.iconst 0, 1) := by decide +kernel
theorem dX10_asks_284 : decode cX10_asks 284 = .ok (.iaload, 1) := by decide +kernel
theorem dX10_asks_285 : decode cX10_asks 285 = .ok (.ireturn, 1) := by decide +kernel
theorem dX10_told_0 : decode cX10_told 0 = .ok (.aload_n 0, 1) := by decide +kernel
theorem dX10_told_1 : decode cX10_told 1 = .ok (.iconst 0, 1) := by decide +kernel
theorem dX10_told_2 : decode cX10_told 2 = .ok (.putfield 78, 3) := by decide +kernel
theorem dX10_told_5 : decode cX10_told 5 = .ok (.iload_n 1, 1) := by decide +kernel
theorem dX10_told_6 : decode cX10_told 6 = .ok (.i2l, 1) := by decide +kernel
theorem dX10_told_7 : decode cX10_told 7 = .ok (.lconst 0, 1) := by decide +kernel
theorem dX10_told_8 : decode cX10_told 8 = .ok (.lconst 1, 1) := by decide +kernel
theorem dX10_told_9 : decode cX10_told 9 = .ok (.invokestatic 87, 3) := by decide +kernel
theorem dX10_told_12 : decode cX10_told 12 = .ok (.ifCond .eq 19, 3) := by decide +kernel
theorem dX10_told_15 : decode cX10_told 15 = .ok (.iload_n 2, 1) := by decide +kernel
theorem dX10_told_16 : decode cX10_told 16 = .ok (.ifCond .lt 15, 3) := by decide +kernel
theorem dX10_told_19 : decode cX10_told 19 = .ok (.iload_n 3, 1) := by decide +kernel
theorem dX10_told_20 : decode cX10_told 20 = .ok (.i2l, 1) := by decide +kernel
theorem dX10_told_21 : decode cX10_told 21 = .ok (.lconst 0, 1) := by decide +kernel
theorem dX10_told_22 : decode cX10_told 22 = .ok (.ldc2_w 114, 3) := by decide +kernel
theorem dX10_told_25 : decode cX10_told 25 = .ok (.invokestatic 87, 3) := by decide +kernel
theorem dX10_told_28 : decode cX10_told 28 = .ok (.ifCond .ne 6, 3) := by decide +kernel
theorem dX10_told_31 : decode cX10_told 31 = .ok (.ldc 97, 2) := by decide +kernel
theorem dX10_told_33 : decode cX10_told 33 = .ok (.ireturn, 1) := by decide +kernel
theorem dX10_told_34 : decode cX10_told 34 = .ok (.iload_n 2, 1) := by decide +kernel
theorem dX10_told_35 : decode cX10_told 35 = .ok (.aload_n 0, 1) := by decide +kernel
theorem dX10_told_36 : decode cX10_told 36 = .ok (.getfield 19, 3) := by decide +kernel
theorem dX10_told_39 : decode cX10_told 39 = .ok (.iload_n 1, 1) := by decide +kernel
theorem dX10_told_40 : decode cX10_told 40 = .ok (.iaload, 1) := by decide +kernel
theorem dX10_told_41 : decode cX10_told 41 = .ok (.if_icmp .lt 6, 3) := by decide +kernel
theorem dX10_told_44 : decode cX10_told 44 = .ok (.ldc 106, 2) := by decide +kernel
theorem dX10_told_46 : decode cX10_told 46 = .ok (.ireturn, 1) := by decide +kernel
theorem dX10_told_47 : decode cX10_told 47 = .ok (.bipush 40, 2) := by decide +kernel
theorem dX10_told_49 : decode cX10_told 49 = .ok (.iload_n 1, 1) := by decide +kernel
theorem dX10_told_50 : decode cX10_told 50 = .ok (.imul, 1) := by decide +kernel
theorem dX10_told_51 : decode cX10_told 51 = .ok (.iload_n 2, 1) := by decide +kernel
theorem dX10_told_52 : decode cX10_told 52 = .ok (.iadd, 1) := by decide +kernel
theorem dX10_told_53 : decode cX10_told 53 = .ok (.istore 4, 2) := by decide +kernel
theorem dX10_told_55 : decode cX10_told 55 = .ok (.iload_n 3, 1) := by decide +kernel
theorem dX10_told_56 : decode cX10_told 56 = .ok (.ifCond .ne 13, 3) := by decide +kernel
theorem dX10_told_59 : decode cX10_told 59 = .ok (.aload_n 0, 1) := by decide +kernel
theorem dX10_told_60 : decode cX10_told 60 = .ok (.getfield 22, 3) := by decide +kernel
theorem dX10_told_63 : decode cX10_told 63 = .ok (.iload 4, 2) := by decide +kernel
theorem dX10_told_65 : decode cX10_told 65 = .ok (.iaload, 1) := by decide +kernel
theorem dX10_told_66 : decode cX10_told 66 = .ok (.goto 53, 3) := by decide +kernel
theorem dX10_told_69 : decode cX10_told 69 = .ok (.iload_n 3, 1) := by decide +kernel
theorem dX10_told_70 : decode cX10_told 70 = .ok (.iconst 1, 1) := by decide +kernel
theorem dX10_told_71 : decode cX10_told 71 = .ok (.if_icmp .ne 13, 3) := by decide +kernel
theorem dX10_told_74 : decode cX10_told 74 = .ok (.aload_n 0, 1) := by decide +kernel
theorem dX10_told_75 : decode cX10_told 75 = .ok (.getfield 25, 3) := by decide +kernel
theorem dX10_told_78 : decode cX10_told 78 = .ok (.iload 4, 2) := by decide +kernel
theorem dX10_told_80 : decode cX10_told 80 = .ok (.iaload, 1) := by decide +kernel
theorem dX10_told_81 : decode cX10_told 81 = .ok (.goto 38, 3) := by decide +kernel
theorem dX10_told_84 : decode cX10_told 84 = .ok (.iload_n 3, 1) := by decide +kernel
theorem dX10_told_85 : decode cX10_told 85 = .ok (.iconst 2, 1) := by decide +kernel
theorem dX10_told_86 : decode cX10_told 86 = .ok (.if_icmp .ne 13, 3) := by decide +kernel
theorem dX10_told_89 : decode cX10_told 89 = .ok (.aload_n 0, 1) := by decide +kernel
theorem dX10_told_90 : decode cX10_told 90 = .ok (.getfield 28, 3) := by decide +kernel
theorem dX10_told_93 : decode cX10_told 93 = .ok (.iload 4, 2) := by decide +kernel
theorem dX10_told_95 : decode cX10_told 95 = .ok (.iaload, 1) := by decide +kernel
theorem dX10_told_96 : decode cX10_told 96 = .ok (.goto 23, 3) := by decide +kernel
theorem dX10_told_99 : decode cX10_told 99 = .ok (.iload_n 3, 1) := by decide +kernel
theorem dX10_told_100 : decode cX10_told 100 = .ok (.iconst 3, 1) := by decide +kernel
theorem dX10_told_101 : decode cX10_told 101 = .ok (.if_icmp .ne 12, 3) := by decide +kernel
theorem dX10_told_104 : decode cX10_told 104 = .ok (.aload_n 0, 1) := by decide +kernel
theorem dX10_told_105 : decode cX10_told 105 = .ok (.iload_n 1, 1) := by decide +kernel
theorem dX10_told_106 : decode cX10_told 106 = .ok (.iload_n 2, 1) := by decide +kernel
theorem dX10_told_107 : decode cX10_told 107 = .ok (.invokevirtual 116, 3) := by decide +kernel
theorem dX10_told_110 : decode cX10_told 110 = .ok (.goto 9, 3) := by decide +kernel
theorem dX10_told_113 : decode cX10_told 113 = .ok (.aload_n 0, 1) := by decide +kernel
theorem dX10_told_114 : decode cX10_told 114 = .ok (.iload_n 1, 1) := by decide +kernel
theorem dX10_told_115 : decode cX10_told 115 = .ok (.iload_n 2, 1) := by decide +kernel
theorem dX10_told_116 : decode cX10_told 116 = .ok (.invokevirtual 120, 3) := by decide +kernel
theorem dX10_told_119 : decode cX10_told 119 = .ok (.ireturn, 1) := by decide +kernel
theorem dX10_cameOf_0 : decode cX10_cameOf 0 = .ok (.iconst 0, 1) := by decide +kernel
theorem dX10_cameOf_1 : decode cX10_cameOf 1 = .ok (.istore_n 2, 1) := by decide +kernel
theorem dX10_cameOf_2 : decode cX10_cameOf 2 = .ok (.iconst 0, 1) := by decide +kernel
theorem dX10_cameOf_3 : decode cX10_cameOf 3 = .ok (.istore_n 3, 1) := by decide +kernel
theorem dX10_cameOf_4 : decode cX10_cameOf 4 = .ok (.iload_n 3, 1) := by decide +kernel
theorem dX10_cameOf_5 : decode cX10_cameOf 5 = .ok (.aload_n 0, 1) := by decide +kernel
theorem dX10_cameOf_6 : decode cX10_cameOf 6 = .ok (.getfield 19, 3) := by decide +kernel
theorem dX10_cameOf_9 : decode cX10_cameOf 9 = .ok (.iconst 0, 1) := by decide +kernel
theorem dX10_cameOf_10 : decode cX10_cameOf 10 = .ok (.iaload, 1) := by decide +kernel
theorem dX10_cameOf_11 : decode cX10_cameOf 11 = .ok (.if_icmp .ge 44, 3) := by decide +kernel
theorem dX10_cameOf_14 : decode cX10_cameOf 14 = .ok (.aload_n 0, 1) := by decide +kernel
theorem dX10_cameOf_15 : decode cX10_cameOf 15 = .ok (.iconst 0, 1) := by decide +kernel
theorem dX10_cameOf_16 : decode cX10_cameOf 16 = .ok (.iload_n 3, 1) := by decide +kernel
theorem dX10_cameOf_17 : decode cX10_cameOf 17 = .ok (.invokevirtual 116, 3) := by decide +kernel
theorem dX10_cameOf_20 : decode cX10_cameOf 20 = .ok (.istore 4, 2) := by decide +kernel
theorem dX10_cameOf_22 : decode cX10_cameOf 22 = .ok (.iload_n 2, 1) := by decide +kernel
theorem dX10_cameOf_23 : decode cX10_cameOf 23 = .ok (.iload 4, 2) := by decide +kernel
theorem dX10_cameOf_25 : decode cX10_cameOf 25 = .ok (.iload_n 1, 1) := by decide +kernel
theorem dX10_cameOf_26 : decode cX10_cameOf 26 = .ok (.if_icmp .eq 16, 3) := by decide +kernel
theorem dX10_cameOf_29 : decode cX10_cameOf 29 = .ok (.iload 4, 2) := by decide +kernel
theorem dX10_cameOf_31 : decode cX10_cameOf 31 = .ok (.ldc 106, 2) := by decide +kernel
theorem dX10_cameOf_33 : decode cX10_cameOf 33 = .ok (.if_icmp .ne 13, 3) := by decide +kernel
theorem dX10_cameOf_36 : decode cX10_cameOf 36 = .ok (.iload_n 1, 1) := by decide +kernel
theorem dX10_cameOf_37 : decode cX10_cameOf 37 = .ok (.bipush 10, 2) := by decide +kernel
theorem dX10_cameOf_39 : decode cX10_cameOf 39 = .ok (.if_icmp .ne 7, 3) := by decide +kernel
theorem dX10_cameOf_42 : decode cX10_cameOf 42 = .ok (.iconst 1, 1) := by decide +kernel
theorem dX10_cameOf_43 : decode cX10_cameOf 43 = .ok (.goto 4, 3) := by decide +kernel
theorem dX10_cameOf_46 : decode cX10_cameOf 46 = .ok (.iconst 0, 1) := by decide +kernel
theorem dX10_cameOf_47 : decode cX10_cameOf 47 = .ok (.iadd, 1) := by decide +kernel
theorem dX10_cameOf_48 : decode cX10_cameOf 48 = .ok (.istore_n 2, 1) := by decide +kernel
theorem dX10_cameOf_49 : decode cX10_cameOf 49 = .ok (.iinc 3 1, 3) := by decide +kernel
theorem dX10_cameOf_52 : decode cX10_cameOf 52 = .ok (.goto (-48), 3) := by decide +kernel
theorem dX10_cameOf_55 : decode cX10_cameOf 55 = .ok (.iload_n 2, 1) := by decide +kernel
theorem dX10_cameOf_56 : decode cX10_cameOf 56 = .ok (.ireturn, 1) := by decide +kernel
theorem dX10_came_0 : decode cX10_came 0 = .ok (.aload_n 0, 1) := by decide +kernel
theorem dX10_came_1 : decode cX10_came 1 = .ok (.iconst 0, 1) := by decide +kernel
theorem dX10_came_2 : decode cX10_came 2 = .ok (.putfield 78, 3) := by decide +kernel
theorem dX10_came_5 : decode cX10_came 5 = .ok (.iload_n 1, 1) := by decide +kernel
theorem dX10_came_6 : decode cX10_came 6 = .ok (.i2l, 1) := by decide +kernel
theorem dX10_came_7 : decode cX10_came 7 = .ok (.lconst 0, 1) := by decide +kernel
theorem dX10_came_8 : decode cX10_came 8 = .ok (.ldc2_w 123, 3) := by decide +kernel
theorem dX10_came_11 : decode cX10_came 11 = .ok (.invokestatic 87, 3) := by decide +kernel
theorem dX10_came_14 : decode cX10_came 14 = .ok (.ifCond .eq 11, 3) := by decide +kernel
theorem dX10_came_17 : decode cX10_came 17 = .ok (.aload_n 0, 1) := by decide +kernel
theorem dX10_came_18 : decode cX10_came 18 = .ok (.iload_n 1, 1) := by decide +kernel
theorem dX10_came_19 : decode cX10_came 19 = .ok (.invokevirtual 125, 3) := by decide +kernel
theorem dX10_came_22 : decode cX10_came 22 = .ok (.goto 5, 3) := by decide +kernel
theorem dX10_came_25 : decode cX10_came 25 = .ok (.ldc 97, 2) := by decide +kernel
theorem dX10_came_27 : decode cX10_came 27 = .ok (.ireturn, 1) := by decide +kernel
theorem dX10_firstOf_0 : decode cX10_firstOf 0 = .ok (.iload_n 0, 1) := by decide +kernel
theorem dX10_firstOf_1 : decode cX10_firstOf 1 = .ok (.ifCond .ne 7, 3) := by decide +kernel
theorem dX10_firstOf_4 : decode cX10_firstOf 4 = .ok (.iconst 0, 1) := by decide +kernel
theorem dX10_firstOf_5 : decode cX10_firstOf 5 = .ok (.goto 25, 3) := by decide +kernel
theorem dX10_firstOf_8 : decode cX10_firstOf 8 = .ok (.iload_n 0, 1) := by decide +kernel
theorem dX10_firstOf_9 : decode cX10_firstOf 9 = .ok (.iconst 1, 1) := by decide +kernel
theorem dX10_firstOf_10 : decode cX10_firstOf 10 = .ok (.if_icmp .ne 8, 3) := by decide +kernel
theorem dX10_firstOf_13 : decode cX10_firstOf 13 = .ok (.bipush 10, 2) := by decide +kernel
theorem dX10_firstOf_15 : decode cX10_firstOf 15 = .ok (.goto 15, 3) := by decide +kernel
theorem dX10_firstOf_18 : decode cX10_firstOf 18 = .ok (.iload_n 0, 1) := by decide +kernel
theorem dX10_firstOf_19 : decode cX10_firstOf 19 = .ok (.iconst 2, 1) := by decide +kernel
theorem dX10_firstOf_20 : decode cX10_firstOf 20 = .ok (.if_icmp .ne 8, 3) := by decide +kernel
theorem dX10_firstOf_23 : decode cX10_firstOf 23 = .ok (.bipush 31, 2) := by decide +kernel
theorem dX10_firstOf_25 : decode cX10_firstOf 25 = .ok (.goto 5, 3) := by decide +kernel
theorem dX10_firstOf_28 : decode cX10_firstOf 28 = .ok (.bipush 40, 2) := by decide +kernel
theorem dX10_firstOf_30 : decode cX10_firstOf 30 = .ok (.ireturn, 1) := by decide +kernel
theorem dX10_lastOf_0 : decode cX10_lastOf 0 = .ok (.iload_n 0, 1) := by decide +kernel
theorem dX10_lastOf_1 : decode cX10_lastOf 1 = .ok (.ifCond .ne 8, 3) := by decide +kernel
theorem dX10_lastOf_4 : decode cX10_lastOf 4 = .ok (.bipush 9, 2) := by decide +kernel
theorem dX10_lastOf_6 : decode cX10_lastOf 6 = .ok (.goto 25, 3) := by decide +kernel
theorem dX10_lastOf_9 : decode cX10_lastOf 9 = .ok (.iload_n 0, 1) := by decide +kernel
theorem dX10_lastOf_10 : decode cX10_lastOf 10 = .ok (.iconst 1, 1) := by decide +kernel
theorem dX10_lastOf_11 : decode cX10_lastOf 11 = .ok (.if_icmp .ne 8, 3) := by decide +kernel
theorem dX10_lastOf_14 : decode cX10_lastOf 14 = .ok (.bipush 20, 2) := by decide +kernel
theorem dX10_lastOf_16 : decode cX10_lastOf 16 = .ok (.goto 15, 3) := by decide +kernel
theorem dX10_lastOf_19 : decode cX10_lastOf 19 = .ok (.iload_n 0, 1) := by decide +kernel
theorem dX10_lastOf_20 : decode cX10_lastOf 20 = .ok (.iconst 2, 1) := by decide +kernel
theorem dX10_lastOf_21 : decode cX10_lastOf 21 = .ok (.if_icmp .ne 8, 3) := by decide +kernel
theorem dX10_lastOf_24 : decode cX10_lastOf 24 = .ok (.bipush 39, 2) := by decide +kernel
theorem dX10_lastOf_26 : decode cX10_lastOf 26 = .ok (.goto 5, 3) := by decide +kernel
theorem dX10_lastOf_29 : decode cX10_lastOf 29 = .ok (.bipush 48, 2) := by decide +kernel
theorem dX10_lastOf_31 : decode cX10_lastOf 31 = .ok (.ireturn, 1) := by decide +kernel
theorem dX10_isPart_0 : decode cX10_isPart 0 = .ok (.iload_n 0, 1) := by decide +kernel
theorem dX10_isPart_1 : decode cX10_isPart 1 = .ok (.i2l, 1) := by decide +kernel
theorem dX10_isPart_2 : decode cX10_isPart 2 = .ok (.lconst 0, 1) := by decide +kernel
theorem dX10_isPart_3 : decode cX10_isPart 3 = .ok (.ldc2_w 128, 3) := by decide +kernel
theorem dX10_isPart_6 : decode cX10_isPart 6 = .ok (.invokestatic 87, 3) := by decide +kernel
theorem dX10_isPart_9 : decode cX10_isPart 9 = .ok (.ireturn, 1) := by decide +kernel
theorem dX10_feed_0 : decode cX10_feed 0 = .ok (.aload_n 0, 1) := by decide +kernel
theorem dX10_feed_1 : decode cX10_feed 1 = .ok (.iconst 0, 1) := by decide +kernel
theorem dX10_feed_2 : decode cX10_feed 2 = .ok (.putfield 78, 3) := by decide +kernel
theorem dX10_feed_5 : decode cX10_feed 5 = .ok (.iload_n 3, 1) := by decide +kernel
theorem dX10_feed_6 : decode cX10_feed 6 = .ok (.i2l, 1) := by decide +kernel
theorem dX10_feed_7 : decode cX10_feed 7 = .ok (.lconst 1, 1) := by decide +kernel
theorem dX10_feed_8 : decode cX10_feed 8 = .ok (.ldc2_w 130, 3) := by decide +kernel
theorem dX10_feed_11 : decode cX10_feed 11 = .ok (.invokestatic 87, 3) := by decide +kernel
theorem dX10_feed_14 : decode cX10_feed 14 = .ok (.ifCond .ne 6, 3) := by decide +kernel
theorem dX10_feed_17 : decode cX10_feed 17 = .ok (.ldc 97, 2) := by decide +kernel
theorem dX10_feed_19 : decode cX10_feed 19 = .ok (.ireturn, 1) := by decide +kernel
theorem dX10_feed_20 : decode cX10_feed 20 = .ok (.aload_n 0, 1) := by decide +kernel
theorem dX10_feed_21 : decode cX10_feed 21 = .ok (.getfield 132, 3) := by decide +kernel
theorem dX10_feed_24 : decode cX10_feed 24 = .ok (.iload_n 3, 1) := by decide +kernel
theorem dX10_feed_25 : decode cX10_feed 25 = .ok (.iadd, 1) := by decide +kernel
theorem dX10_feed_26 : decode cX10_feed 26 = .ok (.sipush 400, 3) := by decide +kernel
theorem dX10_feed_29 : decode cX10_feed 29 = .ok (.if_icmp .le 6, 3) := by decide +kernel
theorem dX10_feed_32 : decode cX10_feed 32 = .ok (.ldc 109, 2) := by decide +kernel
theorem dX10_feed_34 : decode cX10_feed 34 = .ok (.ireturn, 1) := by decide +kernel
theorem dX10_feed_35 : decode cX10_feed 35 = .ok (.iload_n 3, 1) := by decide +kernel
theorem dX10_feed_36 : decode cX10_feed 36 = .ok (.iconst 1, 1) := by decide +kernel
theorem dX10_feed_37 : decode cX10_feed 37 = .ok (.isub, 1) := by decide +kernel
theorem dX10_feed_38 : decode cX10_feed 38 = .ok (.istore 4, 2) := by decide +kernel
theorem dX10_feed_40 : decode cX10_feed 40 = .ok (.iload 4, 2) := by decide +kernel
theorem dX10_feed_42 : decode cX10_feed 42 = .ok (.ifCond .lt 40, 3) := by decide +kernel
theorem dX10_feed_45 : decode cX10_feed 45 = .ok (.aload_n 0, 1) := by decide +kernel
theorem dX10_feed_46 : decode cX10_feed 46 = .ok (.getfield 41, 3) := by decide +kernel
theorem dX10_feed_49 : decode cX10_feed 49 = .ok (.aload_n 0, 1) := by decide +kernel
theorem dX10_feed_50 : decode cX10_feed 50 = .ok (.getfield 132, 3) := by decide +kernel
theorem dX10_feed_53 : decode cX10_feed 53 = .ok (.lload_n 1, 1) := by decide +kernel
theorem dX10_feed_54 : decode cX10_feed 54 = .ok (.bipush 8, 2) := by decide +kernel
theorem dX10_feed_56 : decode cX10_feed 56 = .ok (.iload 4, 2) := by decide +kernel
theorem dX10_feed_58 : decode cX10_feed 58 = .ok (.imul, 1) := by decide +kernel
theorem dX10_feed_59 : decode cX10_feed 59 = .ok (.lshr, 1) := by decide +kernel
theorem dX10_feed_60 : decode cX10_feed 60 = .ok (.ldc2_w 135, 3) := by decide +kernel
theorem dX10_feed_63 : decode cX10_feed 63 = .ok (.land, 1) := by decide +kernel
theorem dX10_feed_64 : decode cX10_feed 64 = .ok (.l2i, 1) := by decide +kernel
theorem dX10_feed_65 : decode cX10_feed 65 = .ok (.iastore, 1) := by decide +kernel
theorem dX10_feed_66 : decode cX10_feed 66 = .ok (.aload_n 0, 1) := by decide +kernel
theorem dX10_feed_67 : decode cX10_feed 67 = .ok (.dup, 1) := by decide +kernel
theorem dX10_feed_68 : decode cX10_feed 68 = .ok (.getfield 132, 3) := by decide +kernel
theorem dX10_feed_71 : decode cX10_feed 71 = .ok (.iconst 1, 1) := by decide +kernel
theorem dX10_feed_72 : decode cX10_feed 72 = .ok (.iadd, 1) := by decide +kernel
theorem dX10_feed_73 : decode cX10_feed 73 = .ok (.putfield 132, 3) := by decide +kernel
theorem dX10_feed_76 : decode cX10_feed 76 = .ok (.iinc 4 (-1), 3) := by decide +kernel
theorem dX10_feed_79 : decode cX10_feed 79 = .ok (.goto (-39), 3) := by decide +kernel
theorem dX10_feed_82 : decode cX10_feed 82 = .ok (.aload_n 0, 1) := by decide +kernel
theorem dX10_feed_83 : decode cX10_feed 83 = .ok (.getfield 132, 3) := by decide +kernel
theorem dX10_feed_86 : decode cX10_feed 86 = .ok (.ireturn, 1) := by decide +kernel
