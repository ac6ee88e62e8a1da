theorem dX10_serve_0 : decode cX10_serve 0 = .ok (.iconst 0, 1) := by decide +kernel
theorem dX10_serve_1 : decode cX10_serve 1 = .ok (.istore_n 3, 1) := by decide +kernel
theorem dX10_serve_2 : decode cX10_serve 2 = .ok (.iload_n 3, 1) := by decide +kernel
theorem dX10_serve_3 : decode cX10_serve 3 = .ok (.bipush 6, 2) := by decide +kernel
theorem dX10_serve_5 : decode cX10_serve 5 = .ok (.if_icmp .ge 16, 3) := by decide +kernel
theorem dX10_serve_8 : decode cX10_serve 8 = .ok (.aload_n 0, 1) := by decide +kernel
theorem dX10_serve_9 : decode cX10_serve 9 = .ok (.getfield 60, 3) := by decide +kernel
theorem dX10_serve_12 : decode cX10_serve 12 = .ok (.iload_n 3, 1) := by decide +kernel
theorem dX10_serve_13 : decode cX10_serve 13 = .ok (.iconst 0, 1) := by decide +kernel
theorem dX10_serve_14 : decode cX10_serve 14 = .ok (.iastore, 1) := by decide +kernel
theorem dX10_serve_15 : decode cX10_serve 15 = .ok (.iinc 3 1, 3) := by decide +kernel
theorem dX10_serve_18 : decode cX10_serve 18 = .ok (.goto (-16), 3) := by decide +kernel
theorem dX10_serve_21 : decode cX10_serve 21 = .ok (.aload_n 0, 1) := by decide +kernel
theorem dX10_serve_22 : decode cX10_serve 22 = .ok (.iconst 0, 1) := by decide +kernel
theorem dX10_serve_23 : decode cX10_serve 23 = .ok (.putfield 229, 3) := by decide +kernel
theorem dX10_serve_26 : decode cX10_serve 26 = .ok (.iconst 0, 1) := by decide +kernel
theorem dX10_serve_27 : decode cX10_serve 27 = .ok (.istore_n 3, 1) := by decide +kernel
theorem dX10_serve_28 : decode cX10_serve 28 = .ok (.iconst 0, 1) := by decide +kernel
theorem dX10_serve_29 : decode cX10_serve 29 = .ok (.istore 4, 2) := by decide +kernel
theorem dX10_serve_31 : decode cX10_serve 31 = .ok (.iload 4, 2) := by decide +kernel
theorem dX10_serve_33 : decode cX10_serve 33 = .ok (.aload_n 0, 1) := by decide +kernel
theorem dX10_serve_34 : decode cX10_serve 34 = .ok (.getfield 19, 3) := by decide +kernel
theorem dX10_serve_37 : decode cX10_serve 37 = .ok (.iload_n 1, 1) := by decide +kernel
theorem dX10_serve_38 : decode cX10_serve 38 = .ok (.iaload, 1) := by decide +kernel
theorem dX10_serve_39 : decode cX10_serve 39 = .ok (.if_icmp .ge 276, 3) := by decide +kernel
theorem dX10_serve_42 : decode cX10_serve 42 = .ok (.bipush 40, 2) := by decide +kernel
theorem dX10_serve_44 : decode cX10_serve 44 = .ok (.iload_n 1, 1) := by decide +kernel
theorem dX10_serve_45 : decode cX10_serve 45 = .ok (.imul, 1) := by decide +kernel
theorem dX10_serve_46 : decode cX10_serve 46 = .ok (.iload 4, 2) := by decide +kernel
theorem dX10_serve_48 : decode cX10_serve 48 = .ok (.iadd, 1) := by decide +kernel
theorem dX10_serve_49 : decode cX10_serve 49 = .ok (.istore 5, 2) := by decide +kernel
theorem dX10_serve_51 : decode cX10_serve 51 = .ok (.iload_n 2, 1) := by decide +kernel
theorem dX10_serve_52 : decode cX10_serve 52 = .ok (.ifCond .le 29, 3) := by decide +kernel
theorem dX10_serve_55 : decode cX10_serve 55 = .ok (.iload 4, 2) := by decide +kernel
theorem dX10_serve_57 : decode cX10_serve 57 = .ok (.iload_n 2, 1) := by decide +kernel
theorem dX10_serve_58 : decode cX10_serve 58 = .ok (.if_icmp .lt 23, 3) := by decide +kernel
theorem dX10_serve_61 : decode cX10_serve 61 = .ok (.aload_n 0, 1) := by decide +kernel
theorem dX10_serve_62 : decode cX10_serve 62 = .ok (.getfield 57, 3) := by decide +kernel
theorem dX10_serve_65 : decode cX10_serve 65 = .ok (.iload 4, 2) := by decide +kernel
theorem dX10_serve_67 : decode cX10_serve 67 = .ok (.iload_n 2, 1) := by decide +kernel
theorem dX10_serve_68 : decode cX10_serve 68 = .ok (.isub, 1) := by decide +kernel
theorem dX10_serve_69 : decode cX10_serve 69 = .ok (.iaload, 1) := by decide +kernel
theorem dX10_serve_70 : decode cX10_serve 70 = .ok (.aload_n 0, 1) := by decide +kernel
theorem dX10_serve_71 : decode cX10_serve 71 = .ok (.iload_n 1, 1) := by decide +kernel
theorem dX10_serve_72 : decode cX10_serve 72 = .ok (.iload 4, 2) := by decide +kernel
theorem dX10_serve_74 : decode cX10_serve 74 = .ok (.invokevirtual 120, 3) := by decide +kernel
theorem dX10_serve_77 : decode cX10_serve 77 = .ok (.iadd, 1) := by decide +kernel
theorem dX10_serve_78 : decode cX10_serve 78 = .ok (.goto 10, 3) := by decide +kernel
theorem dX10_serve_81 : decode cX10_serve 81 = .ok (.aload_n 0, 1) := by decide +kernel
theorem dX10_serve_82 : decode cX10_serve 82 = .ok (.getfield 22, 3) := by decide +kernel
theorem dX10_serve_85 : decode cX10_serve 85 = .ok (.iload 5, 2) := by decide +kernel
theorem dX10_serve_87 : decode cX10_serve 87 = .ok (.iaload, 1) := by decide +kernel
theorem dX10_serve_88 : decode cX10_serve 88 = .ok (.istore 6, 2) := by decide +kernel
theorem dX10_serve_90 : decode cX10_serve 90 = .ok (.iload 6, 2) := by decide +kernel
theorem dX10_serve_92 : decode cX10_serve 92 = .ok (.iload_n 3, 1) := by decide +kernel
theorem dX10_serve_93 : decode cX10_serve 93 = .ok (.if_icmp .le 8, 3) := by decide +kernel
theorem dX10_serve_96 : decode cX10_serve 96 = .ok (.iload 6, 2) := by decide +kernel
theorem dX10_serve_98 : decode cX10_serve 98 = .ok (.goto 4, 3) := by decide +kernel
theorem dX10_serve_101 : decode cX10_serve 101 = .ok (.iload_n 3, 1) := by decide +kernel
theorem dX10_serve_102 : decode cX10_serve 102 = .ok (.istore 7, 2) := by decide +kernel
theorem dX10_serve_104 : decode cX10_serve 104 = .ok (.iconst 0, 1) := by decide +kernel
theorem dX10_serve_105 : decode cX10_serve 105 = .ok (.istore 8, 2) := by decide +kernel
theorem dX10_serve_107 : decode cX10_serve 107 = .ok (.iconst 0, 1) := by decide +kernel
theorem dX10_serve_108 : decode cX10_serve 108 = .ok (.istore 9, 2) := by decide +kernel
theorem dX10_serve_110 : decode cX10_serve 110 = .ok (.iload 9, 2) := by decide +kernel
theorem dX10_serve_112 : decode cX10_serve 112 = .ok (.aload_n 0, 1) := by decide +kernel
theorem dX10_serve_113 : decode cX10_serve 113 = .ok (.getfield 229, 3) := by decide +kernel
theorem dX10_serve_116 : decode cX10_serve 116 = .ok (.if_icmp .ge 47, 3) := by decide +kernel
theorem dX10_serve_119 : decode cX10_serve 119 = .ok (.iload 9, 2) := by decide +kernel
theorem dX10_serve_121 : decode cX10_serve 121 = .ok (.aload_n 0, 1) := by decide +kernel
theorem dX10_serve_122 : decode cX10_serve 122 = .ok (.getfield 47, 3) := by decide +kernel
theorem dX10_serve_125 : decode cX10_serve 125 = .ok (.if_icmp .ge 38, 3) := by decide +kernel
theorem dX10_serve_128 : decode cX10_serve 128 = .ok (.iload 8, 2) := by decide +kernel
theorem dX10_serve_130 : decode cX10_serve 130 = .ok (.ifCond .ne 20, 3) := by decide +kernel
theorem dX10_serve_133 : decode cX10_serve 133 = .ok (.aload_n 0, 1) := by decide +kernel
theorem dX10_serve_134 : decode cX10_serve 134 = .ok (.getfield 44, 3) := by decide +kernel
theorem dX10_serve_137 : decode cX10_serve 137 = .ok (.iload 9, 2) := by decide +kernel
theorem dX10_serve_139 : decode cX10_serve 139 = .ok (.iaload, 1) := by decide +kernel
theorem dX10_serve_140 : decode cX10_serve 140 = .ok (.aload_n 0, 1) := by decide +kernel
theorem dX10_serve_141 : decode cX10_serve 141 = .ok (.getfield 25, 3) := by decide +kernel
theorem dX10_serve_144 : decode cX10_serve 144 = .ok (.iload 5, 2) := by decide +kernel
theorem dX10_serve_146 : decode cX10_serve 146 = .ok (.iaload, 1) := by decide +kernel
theorem dX10_serve_147 : decode cX10_serve 147 = .ok (.if_icmp .ne 7, 3) := by decide +kernel
theorem dX10_serve_150 : decode cX10_serve 150 = .ok (.iconst 1, 1) := by decide +kernel
theorem dX10_serve_151 : decode cX10_serve 151 = .ok (.goto 4, 3) := by decide +kernel
theorem dX10_serve_154 : decode cX10_serve 154 = .ok (.iconst 0, 1) := by decide +kernel
theorem dX10_serve_155 : decode cX10_serve 155 = .ok (.istore 8, 2) := by decide +kernel
theorem dX10_serve_157 : decode cX10_serve 157 = .ok (.iinc 9 1, 3) := by decide +kernel
theorem dX10_serve_160 : decode cX10_serve 160 = .ok (.goto (-50), 3) := by decide +kernel
theorem dX10_serve_163 : decode cX10_serve 163 = .ok (.aload_n 0, 1) := by decide +kernel
theorem dX10_serve_164 : decode cX10_serve 164 = .ok (.getfield 60, 3) := by decide +kernel
theorem dX10_serve_167 : decode cX10_serve 167 = .ok (.iconst 5, 1) := by decide +kernel
theorem dX10_serve_168 : decode cX10_serve 168 = .ok (.dup2, 1) := by decide +kernel
theorem dX10_serve_169 : decode cX10_serve 169 = .ok (.iaload, 1) := by decide +kernel
theorem dX10_serve_170 : decode cX10_serve 170 = .ok (.iload 8, 2) := by decide +kernel
theorem dX10_serve_172 : decode cX10_serve 172 = .ok (.ifCond .ne 18, 3) := by decide +kernel
theorem dX10_serve_175 : decode cX10_serve 175 = .ok (.aload_n 0, 1) := by decide +kernel
theorem dX10_serve_176 : decode cX10_serve 176 = .ok (.getfield 229, 3) := by decide +kernel
theorem dX10_serve_179 : decode cX10_serve 179 = .ok (.aload_n 0, 1) := by decide +kernel
theorem dX10_serve_180 : decode cX10_serve 180 = .ok (.getfield 47, 3) := by decide +kernel
theorem dX10_serve_183 : decode cX10_serve 183 = .ok (.if_icmp .lt 7, 3) := by decide +kernel
theorem dX10_serve_186 : decode cX10_serve 186 = .ok (.iconst 1, 1) := by decide +kernel
theorem dX10_serve_187 : decode cX10_serve 187 = .ok (.goto 4, 3) := by decide +kernel
theorem dX10_serve_190 : decode cX10_serve 190 = .ok (.iconst 0, 1) := by decide +kernel
theorem dX10_serve_191 : decode cX10_serve 191 = .ok (.iadd, 1) := by decide +kernel
theorem dX10_serve_192 : decode cX10_serve 192 = .ok (.iastore, 1) := by decide +kernel
theorem dX10_serve_193 : decode cX10_serve 193 = .ok (.aload_n 0, 1) := by decide +kernel
theorem dX10_serve_194 : decode cX10_serve 194 = .ok (.getfield 60, 3) := by decide +kernel
theorem dX10_serve_197 : decode cX10_serve 197 = .ok (.iconst 0, 1) := by decide +kernel
theorem dX10_serve_198 : decode cX10_serve 198 = .ok (.dup2, 1) := by decide +kernel
theorem dX10_serve_199 : decode cX10_serve 199 = .ok (.iaload, 1) := by decide +kernel
theorem dX10_serve_200 : decode cX10_serve 200 = .ok (.iload 8, 2) := by decide +kernel
theorem dX10_serve_202 : decode cX10_serve 202 = .ok (.ifCond .eq 7, 3) := by decide +kernel
theorem dX10_serve_205 : decode cX10_serve 205 = .ok (.iconst 1, 1) := by decide +kernel
theorem dX10_serve_206 : decode cX10_serve 206 = .ok (.goto 4, 3) := by decide +kernel
theorem dX10_serve_209 : decode cX10_serve 209 = .ok (.iconst 0, 1) := by decide +kernel
theorem dX10_serve_210 : decode cX10_serve 210 = .ok (.iadd, 1) := by decide +kernel
theorem dX10_serve_211 : decode cX10_serve 211 = .ok (.iastore, 1) := by decide +kernel
theorem dX10_serve_212 : decode cX10_serve 212 = .ok (.aload_n 0, 1) := by decide +kernel
theorem dX10_serve_213 : decode cX10_serve 213 = .ok (.aload_n 0, 1) := by decide +kernel
theorem dX10_serve_214 : decode cX10_serve 214 = .ok (.getfield 25, 3) := by decide +kernel
theorem dX10_serve_217 : decode cX10_serve 217 = .ok (.iload 5, 2) := by decide +kernel
theorem dX10_serve_219 : decode cX10_serve 219 = .ok (.iaload, 1) := by decide +kernel
theorem dX10_serve_220 : decode cX10_serve 220 = .ok (.invokevirtual 239, 3) := by decide +kernel
theorem dX10_serve_223 : decode cX10_serve 223 = .ok (.iload 7, 2) := by decide +kernel
theorem dX10_serve_225 : decode cX10_serve 225 = .ok (.aload_n 0, 1) := by decide +kernel
theorem dX10_serve_226 : decode cX10_serve 226 = .ok (.getfield 51, 3) := by decide +kernel
theorem dX10_serve_229 : decode cX10_serve 229 = .ok (.iadd, 1) := by decide +kernel
theorem dX10_serve_230 : decode cX10_serve 230 = .ok (.iload 8, 2) := by decide +kernel
theorem dX10_serve_232 : decode cX10_serve 232 = .ok (.ifCond .eq 7, 3) := by decide +kernel
theorem dX10_serve_235 : decode cX10_serve 235 = .ok (.iconst 0, 1) := by decide +kernel
theorem dX10_serve_236 : decode cX10_serve 236 = .ok (.goto 15, 3) := by decide +kernel
theorem dX10_serve_239 : decode cX10_serve 239 = .ok (.aload_n 0, 1) := by decide +kernel
theorem dX10_serve_240 : decode cX10_serve 240 = .ok (.getfield 54, 3) := by decide +kernel
theorem dX10_serve_243 : decode cX10_serve 243 = .ok (.aload_n 0, 1) := by decide +kernel
theorem dX10_serve_244 : decode cX10_serve 244 = .ok (.getfield 28, 3) := by decide +kernel
theorem dX10_serve_247 : decode cX10_serve 247 = .ok (.iload 5, 2) := by decide +kernel
theorem dX10_serve_249 : decode cX10_serve 249 = .ok (.iaload, 1) := by decide +kernel
theorem dX10_serve_250 : decode cX10_serve 250 = .ok (.iadd, 1) := by decide +kernel
theorem dX10_serve_251 : decode cX10_serve 251 = .ok (.iadd, 1) := by decide +kernel
theorem dX10_serve_252 : decode cX10_serve 252 = .ok (.istore_n 3, 1) := by decide +kernel
theorem dX10_serve_253 : decode cX10_serve 253 = .ok (.aload_n 0, 1) := by decide +kernel
theorem dX10_serve_254 : decode cX10_serve 254 = .ok (.getfield 57, 3) := by decide +kernel
theorem dX10_serve_257 : decode cX10_serve 257 = .ok (.iload 4, 2) := by decide +kernel
theorem dX10_serve_259 : decode cX10_serve 259 = .ok (.iload_n 3, 1) := by decide +kernel
theorem dX10_serve_260 : decode cX10_serve 260 = .ok (.iastore, 1) := by decide +kernel
theorem dX10_serve_261 : decode cX10_serve 261 = .ok (.aload_n 0, 1) := by decide +kernel
theorem dX10_serve_262 : decode cX10_serve 262 = .ok (.getfield 60, 3) := by decide +kernel
theorem dX10_serve_265 : decode cX10_serve 265 = .ok (.iconst 1, 1) := by decide +kernel
theorem dX10_serve_266 : decode cX10_serve 266 = .ok (.dup2, 1) := by decide +kernel
theorem dX10_serve_267 : decode cX10_serve 267 = .ok (.iaload, 1) := by decide +kernel
theorem dX10_serve_268 : decode cX10_serve 268 = .ok (.iload 7, 2) := by decide +kernel
theorem dX10_serve_270 : decode cX10_serve 270 = .ok (.iload 6, 2) := by decide +kernel
theorem dX10_serve_272 : decode cX10_serve 272 = .ok (.isub, 1) := by decide +kernel
theorem dX10_serve_273 : decode cX10_serve 273 = .ok (.iadd, 1) := by decide +kernel
theorem dX10_serve_274 : decode cX10_serve 274 = .ok (.iastore, 1) := by decide +kernel
theorem dX10_serve_275 : decode cX10_serve 275 = .ok (.aload_n 0, 1) := by decide +kernel
theorem dX10_serve_276 : decode cX10_serve 276 = .ok (.getfield 60, 3) := by decide +kernel
theorem dX10_serve_279 : decode cX10_serve 279 = .ok (.iconst 2, 1) := by decide +kernel
theorem dX10_serve_280 : decode cX10_serve 280 = .ok (.iload 7, 2) := by decide +kernel
theorem dX10_serve_282 : decode cX10_serve 282 = .ok (.iload 6, 2) := by decide +kernel
theorem dX10_serve_284 : decode cX10_serve 284 = .ok (.isub, 1) := by decide +kernel
theorem dX10_serve_285 : decode cX10_serve 285 = .ok (.aload_n 0, 1) := by decide +kernel
theorem dX10_serve_286 : decode cX10_serve 286 = .ok (.getfield 60, 3) := by decide +kernel
theorem dX10_serve_289 : decode cX10_serve 289 = .ok (.iconst 2, 1) := by decide +kernel
theorem dX10_serve_290 : decode cX10_serve 290 = .ok (.iaload, 1) := by decide +kernel
theorem dX10_serve_291 : decode cX10_serve 291 = .ok (.if_icmp .le 11, 3) := by decide +kernel
theorem dX10_serve_294 : decode cX10_serve 294 = .ok (.iload 7, 2) := by decide +kernel
theorem dX10_serve_296 : decode cX10_serve 296 = .ok (.iload 6, 2) := by decide +kernel
theorem dX10_serve_298 : decode cX10_serve 298 = .ok (.isub, 1) := by decide +kernel
theorem dX10_serve_299 : decode cX10_serve 299 = .ok (.goto 9, 3) := by decide +kernel
theorem dX10_serve_302 : decode cX10_serve 302 = .ok (.aload_n 0, 1) := by decide +kernel
theorem dX10_serve_303 : decode cX10_serve 303 = .ok (.getfield 60, 3) := by decide +kernel
theorem dX10_serve_306 : decode cX10_serve 306 = .ok (.iconst 2, 1) := by decide +kernel
theorem dX10_serve_307 : decode cX10_serve 307 = .ok (.iaload, 1) := by decide +kernel
theorem dX10_serve_308 : decode cX10_serve 308 = .ok (.iastore, 1) := by decide +kernel
theorem dX10_serve_309 : decode cX10_serve 309 = .ok (.iinc 4 1, 3) := by decide +kernel
theorem dX10_serve_312 : decode cX10_serve 312 = .ok (.goto (-281), 3) := by decide +kernel
theorem dX10_serve_315 : decode cX10_serve 315 = .ok (.aload_n 0, 1) := by decide +kernel
theorem dX10_serve_316 : decode cX10_serve 316 = .ok (.getfield 60, 3) := by decide +kernel
theorem dX10_serve_319 : decode cX10_serve 319 = .ok (.iconst 3, 1) := by decide +kernel
theorem dX10_serve_320 : decode cX10_serve 320 = .ok (.iload_n 3, 1) := by decide +kernel
theorem dX10_serve_321 : decode cX10_serve 321 = .ok (.iastore, 1) := by decide +kernel
theorem dX10_serve_322 : decode cX10_serve 322 = .ok (.aload_n 0, 1) := by decide +kernel
theorem dX10_serve_323 : decode cX10_serve 323 = .ok (.getfield 60, 3) := by decide +kernel
theorem dX10_serve_326 : decode cX10_serve 326 = .ok (.iconst 4, 1) := by decide +kernel
theorem dX10_serve_327 : decode cX10_serve 327 = .ok (.aload_n 0, 1) := by decide +kernel
theorem dX10_serve_328 : decode cX10_serve 328 = .ok (.getfield 229, 3) := by decide +kernel
theorem dX10_serve_331 : decode cX10_serve 331 = .ok (.iastore, 1) := by decide +kernel
theorem dX10_serve_332 : decode cX10_serve 332 = .ok (.return_, 1) := by decide +kernel
theorem dX10_number_0 : decode cX10_number 0 = .ok (.aload_n 0, 1) := by decide +kernel
theorem dX10_number_1 : decode cX10_number 1 = .ok (.iconst 0, 1) := by decide +kernel
theorem dX10_number_2 : decode cX10_number 2 = .ok (.putfield 78, 3) := by decide +kernel
theorem dX10_number_5 : decode cX10_number 5 = .ok (.iload_n 1, 1) := by decide +kernel
theorem dX10_number_6 : decode cX10_number 6 = .ok (.i2l, 1) := by decide +kernel
theorem dX10_number_7 : decode cX10_number 7 = .ok (.lconst 0, 1) := by decide +kernel
theorem dX10_number_8 : decode cX10_number 8 = .ok (.ldc2_w 128, 3) := by decide +kernel
theorem dX10_number_11 : decode cX10_number 11 = .ok (.invokestatic 87, 3) := by decide +kernel
theorem dX10_number_14 : decode cX10_number 14 = .ok (.ifCond .eq 27, 3) := by decide +kernel
theorem dX10_number_17 : decode cX10_number 17 = .ok (.iload_n 2, 1) := by decide +kernel
theorem dX10_number_18 : decode cX10_number 18 = .ok (.i2l, 1) := by decide +kernel
theorem dX10_number_19 : decode cX10_number 19 = .ok (.lconst 0, 1) := by decide +kernel
theorem dX10_number_20 : decode cX10_number 20 = .ok (.ldc2_w 259, 3) := by decide +kernel
theorem dX10_number_23 : decode cX10_number 23 = .ok (.invokestatic 87, 3) := by decide +kernel
theorem dX10_number_26 : decode cX10_number 26 = .ok (.ifCond .eq 15, 3) := by decide +kernel
theorem dX10_number_29 : decode cX10_number 29 = .ok (.iload_n 3, 1) := by decide +kernel
theorem dX10_number_30 : decode cX10_number 30 = .ok (.i2l, 1) := by decide +kernel
theorem dX10_number_31 : decode cX10_number 31 = .ok (.lconst 0, 1) := by decide +kernel
theorem dX10_number_32 : decode cX10_number 32 = .ok (.ldc2_w 114, 3) := by decide +kernel
theorem dX10_number_35 : decode cX10_number 35 = .ok (.invokestatic 87, 3) := by decide +kernel
theorem dX10_number_38 : decode cX10_number 38 = .ok (.ifCond .ne 6, 3) := by decide +kernel
theorem dX10_number_41 : decode cX10_number 41 = .ok (.ldc 97, 2) := by decide +kernel
theorem dX10_number_43 : decode cX10_number 43 = .ok (.ireturn, 1) := by decide +kernel
theorem dX10_number_44 : decode cX10_number 44 = .ok (.aload_n 0, 1) := by decide +kernel
theorem dX10_number_45 : decode cX10_number 45 = .ok (.invokevirtual 261, 3) := by decide +kernel
theorem dX10_number_48 : decode cX10_number 48 = .ok (.aload_n 0, 1) := by decide +kernel
theorem dX10_number_49 : decode cX10_number 49 = .ok (.iload_n 1, 1) := by decide +kernel
theorem dX10_number_50 : decode cX10_number 50 = .ok (.iload_n 3, 1) := by decide +kernel
theorem dX10_number_51 : decode cX10_number 51 = .ok (.invokevirtual 264, 3) := by decide +kernel
theorem dX10_number_54 : decode cX10_number 54 = .ok (.aload_n 0, 1) := by decide +kernel
theorem dX10_number_55 : decode cX10_number 55 = .ok (.getfield 60, 3) := by decide +kernel
theorem dX10_number_58 : decode cX10_number 58 = .ok (.iload_n 2, 1) := by decide +kernel
theorem dX10_number_59 : decode cX10_number 59 = .ok (.iaload, 1) := by decide +kernel
theorem dX10_number_60 : decode cX10_number 60 = .ok (.ireturn, 1) := by decide +kernel
theorem dX10_apart_0 : decode cX10_apart 0 = .ok (.iload_n 0, 1) := by decide +kernel
theorem dX10_apart_1 : decode cX10_apart 1 = .ok (.iload_n 1, 1) := by decide +kernel
theorem dX10_apart_2 : decode cX10_apart 2 = .ok (.if_icmp .ge 9, 3) := by decide +kernel
theorem dX10_apart_5 : decode cX10_apart 5 = .ok (.iload_n 1, 1) := by decide +kernel
theorem dX10_apart_6 : decode cX10_apart 6 = .ok (.iload_n 0, 1) := by decide +kernel
theorem dX10_apart_7 : decode cX10_apart 7 = .ok (.isub, 1) := by decide +kernel
theorem dX10_apart_8 : decode cX10_apart 8 = .ok (.goto 6, 3) := by decide +kernel
theorem dX10_apart_11 : decode cX10_apart 11 = .ok (.iload_n 0, 1) := by decide +kernel
theorem dX10_apart_12 : decode cX10_apart 12 = .ok (.iload_n 1, 1) := by decide +kernel
theorem dX10_apart_13 : decode cX10_apart 13 = .ok (.isub, 1) := by decide +kernel
theorem dX10_apart_14 : decode cX10_apart 14 = .ok (.ireturn, 1) := by decide +kernel
theorem dX10_keep_0 : decode cX10_keep 0 = .ok (.iconst 0, 1) := by decide +kernel
theorem dX10_keep_1 : decode cX10_keep 1 = .ok (.istore_n 2, 1) := by decide +kernel
theorem dX10_keep_2 : decode cX10_keep 2 = .ok (.iload_n 2, 1) := by decide +kernel
theorem dX10_keep_3 : decode cX10_keep 3 = .ok (.bipush 6, 2) := by decide +kernel
theorem dX10_keep_5 : decode cX10_keep 5 = .ok (.if_icmp .ge 18, 3) := by decide +kernel
theorem dX10_keep_8 : decode cX10_keep 8 = .ok (.aload_n 1, 1) := by decide +kernel
theorem dX10_keep_9 : decode cX10_keep 9 = .ok (.iload_n 2, 1) := by decide +kernel
theorem dX10_keep_10 : decode cX10_keep 10 = .ok (.aload_n 0, 1) := by decide +kernel
theorem dX10_keep_11 : decode cX10_keep 11 = .ok (.getfield 60, 3) := by decide +kernel
theorem dX10_keep_14 : decode cX10_keep 14 = .ok (.iload_n 2, 1) := by decide +kernel
theorem dX10_keep_15 : decode cX10_keep 15 = .ok (.iaload, 1) := by decide +kernel
theorem dX10_keep_16 : decode cX10_keep 16 = .ok (.iastore, 1) := by decide +kernel
theorem dX10_keep_17 : decode cX10_keep 17 = .ok (.iinc 2 1, 3) := by decide +kernel
theorem dX10_keep_20 : decode cX10_keep 20 = .ok (.goto (-18), 3) := by decide +kernel
theorem dX10_keep_23 : decode cX10_keep 23 = .ok (.return_, 1) := by decide +kernel
theorem dX10_likeSet_0 : decode cX10_likeSet 0 = .ok (.aload_n 0, 1) := by decide +kernel
theorem dX10_likeSet_1 : decode cX10_likeSet 1 = .ok (.invokevirtual 261, 3) := by decide +kernel
theorem dX10_likeSet_4 : decode cX10_likeSet 4 = .ok (.aload_n 0, 1) := by decide +kernel
theorem dX10_likeSet_5 : decode cX10_likeSet 5 = .ok (.iconst 0, 1) := by decide +kernel
theorem dX10_likeSet_6 : decode cX10_likeSet 6 = .ok (.iload_n 2, 1) := by decide +kernel
theorem dX10_likeSet_7 : decode cX10_likeSet 7 = .ok (.invokevirtual 264, 3) := by decide +kernel
theorem dX10_likeSet_10 : decode cX10_likeSet 10 = .ok (.aload_n 0, 1) := by decide +kernel
theorem dX10_likeSet_11 : decode cX10_likeSet 11 = .ok (.aload_n 0, 1) := by decide +kernel
theorem dX10_likeSet_12 : decode cX10_likeSet 12 = .ok (.getfield 63, 3) := by decide +kernel
theorem dX10_likeSet_15 : decode cX10_likeSet 15 = .ok (.invokevirtual 268, 3) := by decide +kernel
theorem dX10_likeSet_18 : decode cX10_likeSet 18 = .ok (.aload_n 0, 1) := by decide +kernel
theorem dX10_likeSet_19 : decode cX10_likeSet 19 = .ok (.iconst 2, 1) := by decide +kernel
theorem dX10_likeSet_20 : decode cX10_likeSet 20 = .ok (.iload_n 2, 1) := by decide +kernel
theorem dX10_likeSet_21 : decode cX10_likeSet 21 = .ok (.invokevirtual 264, 3) := by decide +kernel
theorem dX10_likeSet_24 : decode cX10_likeSet 24 = .ok (.aload_n 0, 1) := by decide +kernel
theorem dX10_likeSet_25 : decode cX10_likeSet 25 = .ok (.aload_n 0, 1) := by decide +kernel
theorem dX10_likeSet_26 : decode cX10_likeSet 26 = .ok (.getfield 66, 3) := by decide +kernel
theorem dX10_likeSet_29 : decode cX10_likeSet 29 = .ok (.invokevirtual 268, 3) := by decide +kernel
theorem dX10_likeSet_32 : decode cX10_likeSet 32 = .ok (.aload_n 0, 1) := by decide +kernel
theorem dX10_likeSet_33 : decode cX10_likeSet 33 = .ok (.iconst 3, 1) := by decide +kernel
theorem dX10_likeSet_34 : decode cX10_likeSet 34 = .ok (.iload_n 2, 1) := by decide +kernel
theorem dX10_likeSet_35 : decode cX10_likeSet 35 = .ok (.invokevirtual 264, 3) := by decide +kernel
theorem dX10_likeSet_38 : decode cX10_likeSet 38 = .ok (.aload_n 0, 1) := by decide +kernel
theorem dX10_likeSet_39 : decode cX10_likeSet 39 = .ok (.aload_n 0, 1) := by decide +kernel
theorem dX10_likeSet_40 : decode cX10_likeSet 40 = .ok (.getfield 69, 3) := by decide +kernel
theorem dX10_likeSet_43 : decode cX10_likeSet 43 = .ok (.invokevirtual 268, 3) := by decide +kernel
theorem dX10_likeSet_46 : decode cX10_likeSet 46 = .ok (.aload_n 0, 1) := by decide +kernel
theorem dX10_likeSet_47 : decode cX10_likeSet 47 = .ok (.iload_n 1, 1) := by decide +kernel
theorem dX10_likeSet_48 : decode cX10_likeSet 48 = .ok (.iload_n 2, 1) := by decide +kernel
theorem dX10_likeSet_49 : decode cX10_likeSet 49 = .ok (.invokevirtual 264, 3) := by decide +kernel
theorem dX10_likeSet_52 : decode cX10_likeSet 52 = .ok (.iconst 0, 1) := by decide +kernel
theorem dX10_likeSet_53 : decode cX10_likeSet 53 = .ok (.istore_n 3, 1) := by decide +kernel
theorem dX10_likeSet_54 : decode cX10_likeSet 54 = .ok (.iconst 0, 1) := by decide +kernel
theorem dX10_likeSet_55 : decode cX10_likeSet 55 = .ok (.istore 4, 2) := by decide +kernel
theorem dX10_likeSet_57 : decode cX10_likeSet 57 = .ok (.iload 4, 2) := by decide +kernel
theorem dX10_likeSet_59 : decode cX10_likeSet 59 = .ok (.bipush 6, 2) := by decide +kernel
theorem dX10_likeSet_61 : decode cX10_likeSet 61 = .ok (.if_icmp .ge 57, 3) := by decide +kernel
theorem dX10_likeSet_64 : decode cX10_likeSet 64 = .ok (.iload_n 3, 1) := by decide +kernel
theorem dX10_likeSet_65 : decode cX10_likeSet 65 = .ok (.aload_n 0, 1) := by decide +kernel
theorem dX10_likeSet_66 : decode cX10_likeSet 66 = .ok (.getfield 60, 3) := by decide +kernel
theorem dX10_likeSet_69 : decode cX10_likeSet 69 = .ok (.iload 4, 2) := by decide +kernel
theorem dX10_likeSet_71 : decode cX10_likeSet 71 = .ok (.iaload, 1) := by decide +kernel
theorem dX10_likeSet_72 : decode cX10_likeSet 72 = .ok (.aload_n 0, 1) := by decide +kernel
theorem dX10_likeSet_73 : decode cX10_likeSet 73 = .ok (.getfield 63, 3) := by decide +kernel
theorem dX10_likeSet_76 : decode cX10_likeSet 76 = .ok (.iload 4, 2) := by decide +kernel
theorem dX10_likeSet_78 : decode cX10_likeSet 78 = .ok (.iaload, 1) := by decide +kernel
theorem dX10_likeSet_79 : decode cX10_likeSet 79 = .ok (.invokestatic 272, 3) := by decide +kernel
theorem dX10_likeSet_82 : decode cX10_likeSet 82 = .ok (.aload_n 0, 1) := by decide +kernel
theorem dX10_likeSet_83 : decode cX10_likeSet 83 = .ok (.getfield 66, 3) := by decide +kernel
theorem dX10_likeSet_86 : decode cX10_likeSet 86 = .ok (.iload 4, 2) := by decide +kernel
theorem dX10_likeSet_88 : decode cX10_likeSet 88 = .ok (.iaload, 1) := by decide +kernel
theorem dX10_likeSet_89 : decode cX10_likeSet 89 = .ok (.aload_n 0, 1) := by decide +kernel
theorem dX10_likeSet_90 : decode cX10_likeSet 90 = .ok (.getfield 69, 3) := by decide +kernel
theorem dX10_likeSet_93 : decode cX10_likeSet 93 = .ok (.iload 4, 2) := by decide +kernel
theorem dX10_likeSet_95 : decode cX10_likeSet 95 = .ok (.iaload, 1) := by decide +kernel
theorem dX10_likeSet_96 : decode cX10_likeSet 96 = .ok (.invokestatic 272, 3) := by decide +kernel
theorem dX10_likeSet_99 : decode cX10_likeSet 99 = .ok (.if_icmp .gt 10, 3) := by decide +kernel
theorem dX10_likeSet_102 : decode cX10_likeSet 102 = .ok (.iconst 1, 1) := by decide +kernel
theorem dX10_likeSet_103 : decode cX10_likeSet 103 = .ok (.iload 4, 2) := by decide +kernel
theorem dX10_likeSet_105 : decode cX10_likeSet 105 = .ok (.ishl, 1) := by decide +kernel
theorem dX10_likeSet_106 : decode cX10_likeSet 106 = .ok (.goto 4, 3) := by decide +kernel
theorem dX10_likeSet_109 : decode cX10_likeSet 109 = .ok (.iconst 0, 1) := by decide +kernel
theorem dX10_likeSet_110 : decode cX10_likeSet 110 = .ok (.ior, 1) := by decide +kernel
theorem dX10_likeSet_111 : decode cX10_likeSet 111 = .ok (.istore_n 3, 1) := by decide +kernel
theorem dX10_likeSet_112 : decode cX10_likeSet 112 = .ok (.iinc 4 1, 3) := by decide +kernel
theorem dX10_likeSet_115 : decode cX10_likeSet 115 = .ok (.goto (-58), 3) := by decide +kernel
theorem dX10_likeSet_118 : decode cX10_likeSet 118 = .ok (.iload_n 3, 1) := by decide +kernel
theorem dX10_likeSet_119 : decode cX10_likeSet 119 = .ok (.ireturn, 1) := by decide +kernel
theorem dX10_unlike_0 : decode cX10_unlike 0 = .ok (.aload_n 0, 1) := by decide +kernel
theorem dX10_unlike_1 : decode cX10_unlike 1 = .ok (.iconst 0, 1) := by decide +kernel
theorem dX10_unlike_2 : decode cX10_unlike 2 = .ok (.putfield 78, 3) := by decide +kernel
theorem dX10_unlike_5 : decode cX10_unlike 5 = .ok (.iload_n 1, 1) := by decide +kernel
theorem dX10_unlike_6 : decode cX10_unlike 6 = .ok (.i2l, 1) := by decide +kernel
theorem dX10_unlike_7 : decode cX10_unlike 7 = .ok (.lconst 0, 1) := by decide +kernel
theorem dX10_unlike_8 : decode cX10_unlike 8 = .ok (.ldc2_w 114, 3) := by decide +kernel
theorem dX10_unlike_11 : decode cX10_unlike 11 = .ok (.invokestatic 87, 3) := by decide +kernel
theorem dX10_unlike_14 : decode cX10_unlike 14 = .ok (.ifCond .eq 17, 3) := by decide +kernel
theorem dX10_unlike_17 : decode cX10_unlike 17 = .ok (.bipush 63, 2) := by decide +kernel
theorem dX10_unlike_19 : decode cX10_unlike 19 = .ok (.aload_n 0, 1) := by decide +kernel
theorem dX10_unlike_20 : decode cX10_unlike 20 = .ok (.iconst 1, 1) := by decide +kernel
theorem dX10_unlike_21 : decode cX10_unlike 21 = .ok (.iload_n 1, 1) := by decide +kernel
theorem dX10_unlike_22 : decode cX10_unlike 22 = .ok (.invokevirtual 275, 3) := by decide +kernel
theorem dX10_unlike_25 : decode cX10_unlike 25 = .ok (.iconst (-1), 1) := by decide +kernel
theorem dX10_unlike_26 : decode cX10_unlike 26 = .ok (.ixor, 1) := by decide +kernel
theorem dX10_unlike_27 : decode cX10_unlike 27 = .ok (.iand, 1) := by decide +kernel
theorem dX10_unlike_28 : decode cX10_unlike 28 = .ok (.goto 5, 3) := by decide +kernel
theorem dX10_unlike_31 : decode cX10_unlike 31 = .ok (.ldc 97, 2) := by decide +kernel
theorem dX10_unlike_33 : decode cX10_unlike 33 = .ok (.ireturn, 1) := by decide +kernel
