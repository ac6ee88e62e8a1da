theorem dX10_copy_0 : decode cX10_copy 0 = .ok (.aload_n 0, 1) := by decide +kernel
theorem dX10_copy_1 : decode cX10_copy 1 = .ok (.iconst 0, 1) := by decide +kernel
theorem dX10_copy_2 : decode cX10_copy 2 = .ok (.putfield 78, 3) := by decide +kernel
theorem dX10_copy_5 : decode cX10_copy 5 = .ok (.iload_n 1, 1) := by decide +kernel
theorem dX10_copy_6 : decode cX10_copy 6 = .ok (.invokestatic 91, 3) := by decide +kernel
theorem dX10_copy_9 : decode cX10_copy 9 = .ok (.ifCond .eq 10, 3) := by decide +kernel
theorem dX10_copy_12 : decode cX10_copy 12 = .ok (.iload_n 3, 1) := by decide +kernel
theorem dX10_copy_13 : decode cX10_copy 13 = .ok (.invokestatic 91, 3) := by decide +kernel
theorem dX10_copy_16 : decode cX10_copy 16 = .ok (.ifCond .ne 6, 3) := by decide +kernel
theorem dX10_copy_19 : decode cX10_copy 19 = .ok (.ldc 97, 2) := by decide +kernel
theorem dX10_copy_21 : decode cX10_copy 21 = .ok (.ireturn, 1) := by decide +kernel
theorem dX10_copy_22 : decode cX10_copy 22 = .ok (.aload_n 0, 1) := by decide +kernel
theorem dX10_copy_23 : decode cX10_copy 23 = .ok (.iconst 0, 1) := by decide +kernel
theorem dX10_copy_24 : decode cX10_copy 24 = .ok (.putfield 81, 3) := by decide +kernel
theorem dX10_copy_27 : decode cX10_copy 27 = .ok (.aload_n 0, 1) := by decide +kernel
theorem dX10_copy_28 : decode cX10_copy 28 = .ok (.getfield 7, 3) := by decide +kernel
theorem dX10_copy_31 : decode cX10_copy 31 = .ok (.iload_n 1, 1) := by decide +kernel
theorem dX10_copy_32 : decode cX10_copy 32 = .ok (.iaload, 1) := by decide +kernel
theorem dX10_copy_33 : decode cX10_copy 33 = .ok (.ifCond .lt 12, 3) := by decide +kernel
theorem dX10_copy_36 : decode cX10_copy 36 = .ok (.aload_n 0, 1) := by decide +kernel
theorem dX10_copy_37 : decode cX10_copy 37 = .ok (.getfield 7, 3) := by decide +kernel
theorem dX10_copy_40 : decode cX10_copy 40 = .ok (.iload_n 3, 1) := by decide +kernel
theorem dX10_copy_41 : decode cX10_copy 41 = .ok (.iaload, 1) := by decide +kernel
theorem dX10_copy_42 : decode cX10_copy 42 = .ok (.ifCond .ge 9, 3) := by decide +kernel
theorem dX10_copy_45 : decode cX10_copy 45 = .ok (.aload_n 0, 1) := by decide +kernel
theorem dX10_copy_46 : decode cX10_copy 46 = .ok (.iconst 1, 1) := by decide +kernel
theorem dX10_copy_47 : decode cX10_copy 47 = .ok (.invokevirtual 98, 3) := by decide +kernel
theorem dX10_copy_50 : decode cX10_copy 50 = .ok (.ireturn, 1) := by decide +kernel
theorem dX10_copy_51 : decode cX10_copy 51 = .ok (.aload_n 0, 1) := by decide +kernel
theorem dX10_copy_52 : decode cX10_copy 52 = .ok (.getfield 7, 3) := by decide +kernel
theorem dX10_copy_55 : decode cX10_copy 55 = .ok (.iload_n 1, 1) := by decide +kernel
theorem dX10_copy_56 : decode cX10_copy 56 = .ok (.iaload, 1) := by decide +kernel
theorem dX10_copy_57 : decode cX10_copy 57 = .ok (.aload_n 0, 1) := by decide +kernel
theorem dX10_copy_58 : decode cX10_copy 58 = .ok (.getfield 7, 3) := by decide +kernel
theorem dX10_copy_61 : decode cX10_copy 61 = .ok (.iload_n 3, 1) := by decide +kernel
theorem dX10_copy_62 : decode cX10_copy 62 = .ok (.iaload, 1) := by decide +kernel
theorem dX10_copy_63 : decode cX10_copy 63 = .ok (.if_icmp .eq 9, 3) := by decide +kernel
theorem dX10_copy_66 : decode cX10_copy 66 = .ok (.aload_n 0, 1) := by decide +kernel
theorem dX10_copy_67 : decode cX10_copy 67 = .ok (.iconst 5, 1) := by decide +kernel
theorem dX10_copy_68 : decode cX10_copy 68 = .ok (.invokevirtual 98, 3) := by decide +kernel
theorem dX10_copy_71 : decode cX10_copy 71 = .ok (.ireturn, 1) := by decide +kernel
theorem dX10_copy_72 : decode cX10_copy 72 = .ok (.iload_n 2, 1) := by decide +kernel
theorem dX10_copy_73 : decode cX10_copy 73 = .ok (.ifCond .lt 48, 3) := by decide +kernel
theorem dX10_copy_76 : decode cX10_copy 76 = .ok (.iload 4, 2) := by decide +kernel
theorem dX10_copy_78 : decode cX10_copy 78 = .ok (.ifCond .lt 43, 3) := by decide +kernel
theorem dX10_copy_81 : decode cX10_copy 81 = .ok (.iload 5, 2) := by decide +kernel
theorem dX10_copy_83 : decode cX10_copy 83 = .ok (.ifCond .lt 38, 3) := by decide +kernel
theorem dX10_copy_86 : decode cX10_copy 86 = .ok (.iload_n 2, 1) := by decide +kernel
theorem dX10_copy_87 : decode cX10_copy 87 = .ok (.i2l, 1) := by decide +kernel
theorem dX10_copy_88 : decode cX10_copy 88 = .ok (.iload 5, 2) := by decide +kernel
theorem dX10_copy_90 : decode cX10_copy 90 = .ok (.i2l, 1) := by decide +kernel
theorem dX10_copy_91 : decode cX10_copy 91 = .ok (.ladd, 1) := by decide +kernel
theorem dX10_copy_92 : decode cX10_copy 92 = .ok (.aload_n 0, 1) := by decide +kernel
theorem dX10_copy_93 : decode cX10_copy 93 = .ok (.getfield 13, 3) := by decide +kernel
theorem dX10_copy_96 : decode cX10_copy 96 = .ok (.iload_n 1, 1) := by decide +kernel
theorem dX10_copy_97 : decode cX10_copy 97 = .ok (.iaload, 1) := by decide +kernel
theorem dX10_copy_98 : decode cX10_copy 98 = .ok (.i2l, 1) := by decide +kernel
theorem dX10_copy_99 : decode cX10_copy 99 = .ok (.lcmp, 1) := by decide +kernel
theorem dX10_copy_100 : decode cX10_copy 100 = .ok (.ifCond .gt 21, 3) := by decide +kernel
theorem dX10_copy_103 : decode cX10_copy 103 = .ok (.iload 4, 2) := by decide +kernel
theorem dX10_copy_105 : decode cX10_copy 105 = .ok (.i2l, 1) := by decide +kernel
theorem dX10_copy_106 : decode cX10_copy 106 = .ok (.iload 5, 2) := by decide +kernel
theorem dX10_copy_108 : decode cX10_copy 108 = .ok (.i2l, 1) := by decide +kernel
theorem dX10_copy_109 : decode cX10_copy 109 = .ok (.ladd, 1) := by decide +kernel
theorem dX10_copy_110 : decode cX10_copy 110 = .ok (.aload_n 0, 1) := by decide +kernel
theorem dX10_copy_111 : decode cX10_copy 111 = .ok (.getfield 13, 3) := by decide +kernel
theorem dX10_copy_114 : decode cX10_copy 114 = .ok (.iload_n 3, 1) := by decide +kernel
theorem dX10_copy_115 : decode cX10_copy 115 = .ok (.iaload, 1) := by decide +kernel
theorem dX10_copy_116 : decode cX10_copy 116 = .ok (.i2l, 1) := by decide +kernel
theorem dX10_copy_117 : decode cX10_copy 117 = .ok (.lcmp, 1) := by decide +kernel
theorem dX10_copy_118 : decode cX10_copy 118 = .ok (.ifCond .le 9, 3) := by decide +kernel
theorem dX10_copy_121 : decode cX10_copy 121 = .ok (.aload_n 0, 1) := by decide +kernel
theorem dX10_copy_122 : decode cX10_copy 122 = .ok (.iconst 2, 1) := by decide +kernel
theorem dX10_copy_123 : decode cX10_copy 123 = .ok (.invokevirtual 98, 3) := by decide +kernel
theorem dX10_copy_126 : decode cX10_copy 126 = .ok (.ireturn, 1) := by decide +kernel
theorem dX10_copy_127 : decode cX10_copy 127 = .ok (.iload_n 2, 1) := by decide +kernel
theorem dX10_copy_128 : decode cX10_copy 128 = .ok (.iload 4, 2) := by decide +kernel
theorem dX10_copy_130 : decode cX10_copy 130 = .ok (.if_icmp .lt 7, 3) := by decide +kernel
theorem dX10_copy_133 : decode cX10_copy 133 = .ok (.iconst 1, 1) := by decide +kernel
theorem dX10_copy_134 : decode cX10_copy 134 = .ok (.goto 4, 3) := by decide +kernel
theorem dX10_copy_137 : decode cX10_copy 137 = .ok (.iconst 0, 1) := by decide +kernel
theorem dX10_copy_138 : decode cX10_copy 138 = .ok (.istore 6, 2) := by decide +kernel
theorem dX10_copy_140 : decode cX10_copy 140 = .ok (.iconst 0, 1) := by decide +kernel
theorem dX10_copy_141 : decode cX10_copy 141 = .ok (.istore 7, 2) := by decide +kernel
theorem dX10_copy_143 : decode cX10_copy 143 = .ok (.iload 7, 2) := by decide +kernel
theorem dX10_copy_145 : decode cX10_copy 145 = .ok (.iload 5, 2) := by decide +kernel
theorem dX10_copy_147 : decode cX10_copy 147 = .ok (.if_icmp .ge 57, 3) := by decide +kernel
theorem dX10_copy_150 : decode cX10_copy 150 = .ok (.iload 6, 2) := by decide +kernel
theorem dX10_copy_152 : decode cX10_copy 152 = .ok (.ifCond .eq 8, 3) := by decide +kernel
theorem dX10_copy_155 : decode cX10_copy 155 = .ok (.iload 7, 2) := by decide +kernel
theorem dX10_copy_157 : decode cX10_copy 157 = .ok (.goto 10, 3) := by decide +kernel
theorem dX10_copy_160 : decode cX10_copy 160 = .ok (.iload 5, 2) := by decide +kernel
theorem dX10_copy_162 : decode cX10_copy 162 = .ok (.iconst 1, 1) := by decide +kernel
theorem dX10_copy_163 : decode cX10_copy 163 = .ok (.isub, 1) := by decide +kernel
theorem dX10_copy_164 : decode cX10_copy 164 = .ok (.iload 7, 2) := by decide +kernel
theorem dX10_copy_166 : decode cX10_copy 166 = .ok (.isub, 1) := by decide +kernel
theorem dX10_copy_167 : decode cX10_copy 167 = .ok (.istore 8, 2) := by decide +kernel
theorem dX10_copy_169 : decode cX10_copy 169 = .ok (.aload_n 0, 1) := by decide +kernel
theorem dX10_copy_170 : decode cX10_copy 170 = .ok (.getfield 16, 3) := by decide +kernel
theorem dX10_copy_173 : decode cX10_copy 173 = .ok (.bipush 60, 2) := by decide +kernel
theorem dX10_copy_175 : decode cX10_copy 175 = .ok (.iload_n 3, 1) := by decide +kernel
theorem dX10_copy_176 : decode cX10_copy 176 = .ok (.imul, 1) := by decide +kernel
theorem dX10_copy_177 : decode cX10_copy 177 = .ok (.iload 4, 2) := by decide +kernel
theorem dX10_copy_179 : decode cX10_copy 179 = .ok (.iadd, 1) := by decide +kernel
theorem dX10_copy_180 : decode cX10_copy 180 = .ok (.iload 8, 2) := by decide +kernel
theorem dX10_copy_182 : decode cX10_copy 182 = .ok (.iadd, 1) := by decide +kernel
theorem dX10_copy_183 : decode cX10_copy 183 = .ok (.aload_n 0, 1) := by decide +kernel
theorem dX10_copy_184 : decode cX10_copy 184 = .ok (.getfield 16, 3) := by decide +kernel
theorem dX10_copy_187 : decode cX10_copy 187 = .ok (.bipush 60, 2) := by decide +kernel
theorem dX10_copy_189 : decode cX10_copy 189 = .ok (.iload_n 1, 1) := by decide +kernel
theorem dX10_copy_190 : decode cX10_copy 190 = .ok (.imul, 1) := by decide +kernel
theorem dX10_copy_191 : decode cX10_copy 191 = .ok (.iload_n 2, 1) := by decide +kernel
theorem dX10_copy_192 : decode cX10_copy 192 = .ok (.iadd, 1) := by decide +kernel
theorem dX10_copy_193 : decode cX10_copy 193 = .ok (.iload 8, 2) := by decide +kernel
theorem dX10_copy_195 : decode cX10_copy 195 = .ok (.iadd, 1) := by decide +kernel
theorem dX10_copy_196 : decode cX10_copy 196 = .ok (.iaload, 1) := by decide +kernel
theorem dX10_copy_197 : decode cX10_copy 197 = .ok (.iastore, 1) := by decide +kernel
theorem dX10_copy_198 : decode cX10_copy 198 = .ok (.iinc 7 1, 3) := by decide +kernel
theorem dX10_copy_201 : decode cX10_copy 201 = .ok (.goto (-58), 3) := by decide +kernel
theorem dX10_copy_204 : decode cX10_copy 204 = .ok (.iload 5, 2) := by decide +kernel
theorem dX10_copy_206 : decode cX10_copy 206 = .ok (.ireturn, 1) := by decide +kernel
theorem dX10_drop_0 : decode cX10_drop 0 = .ok (.aload_n 0, 1) := by decide +kernel
theorem dX10_drop_1 : decode cX10_drop 1 = .ok (.iconst 0, 1) := by decide +kernel
theorem dX10_drop_2 : decode cX10_drop 2 = .ok (.putfield 78, 3) := by decide +kernel
theorem dX10_drop_5 : decode cX10_drop 5 = .ok (.iload_n 1, 1) := by decide +kernel
theorem dX10_drop_6 : decode cX10_drop 6 = .ok (.invokestatic 91, 3) := by decide +kernel
theorem dX10_drop_9 : decode cX10_drop 9 = .ok (.ifCond .ne 6, 3) := by decide +kernel
theorem dX10_drop_12 : decode cX10_drop 12 = .ok (.ldc 97, 2) := by decide +kernel
theorem dX10_drop_14 : decode cX10_drop 14 = .ok (.ireturn, 1) := by decide +kernel
theorem dX10_drop_15 : decode cX10_drop 15 = .ok (.aload_n 0, 1) := by decide +kernel
theorem dX10_drop_16 : decode cX10_drop 16 = .ok (.iconst 0, 1) := by decide +kernel
theorem dX10_drop_17 : decode cX10_drop 17 = .ok (.putfield 81, 3) := by decide +kernel
theorem dX10_drop_20 : decode cX10_drop 20 = .ok (.aload_n 0, 1) := by decide +kernel
theorem dX10_drop_21 : decode cX10_drop 21 = .ok (.getfield 7, 3) := by decide +kernel
theorem dX10_drop_24 : decode cX10_drop 24 = .ok (.iload_n 1, 1) := by decide +kernel
theorem dX10_drop_25 : decode cX10_drop 25 = .ok (.iaload, 1) := by decide +kernel
theorem dX10_drop_26 : decode cX10_drop 26 = .ok (.ifCond .ge 9, 3) := by decide +kernel
theorem dX10_drop_29 : decode cX10_drop 29 = .ok (.aload_n 0, 1) := by decide +kernel
theorem dX10_drop_30 : decode cX10_drop 30 = .ok (.iconst 1, 1) := by decide +kernel
theorem dX10_drop_31 : decode cX10_drop 31 = .ok (.invokevirtual 98, 3) := by decide +kernel
theorem dX10_drop_34 : decode cX10_drop 34 = .ok (.ireturn, 1) := by decide +kernel
theorem dX10_drop_35 : decode cX10_drop 35 = .ok (.aload_n 0, 1) := by decide +kernel
theorem dX10_drop_36 : decode cX10_drop 36 = .ok (.getfield 7, 3) := by decide +kernel
theorem dX10_drop_39 : decode cX10_drop 39 = .ok (.iload_n 1, 1) := by decide +kernel
theorem dX10_drop_40 : decode cX10_drop 40 = .ok (.iconst (-1), 1) := by decide +kernel
theorem dX10_drop_41 : decode cX10_drop 41 = .ok (.iastore, 1) := by decide +kernel
theorem dX10_drop_42 : decode cX10_drop 42 = .ok (.aload_n 0, 1) := by decide +kernel
theorem dX10_drop_43 : decode cX10_drop 43 = .ok (.getfield 13, 3) := by decide +kernel
theorem dX10_drop_46 : decode cX10_drop 46 = .ok (.iload_n 1, 1) := by decide +kernel
theorem dX10_drop_47 : decode cX10_drop 47 = .ok (.iaload, 1) := by decide +kernel
theorem dX10_drop_48 : decode cX10_drop 48 = .ok (.ireturn, 1) := by decide +kernel
theorem dX10_add_0 : decode cX10_add 0 = .ok (.bipush 40, 2) := by decide +kernel
theorem dX10_add_2 : decode cX10_add 2 = .ok (.iload_n 1, 1) := by decide +kernel
theorem dX10_add_3 : decode cX10_add 3 = .ok (.imul, 1) := by decide +kernel
theorem dX10_add_4 : decode cX10_add 4 = .ok (.aload_n 0, 1) := by decide +kernel
theorem dX10_add_5 : decode cX10_add 5 = .ok (.getfield 19, 3) := by decide +kernel
theorem dX10_add_8 : decode cX10_add 8 = .ok (.iload_n 1, 1) := by decide +kernel
theorem dX10_add_9 : decode cX10_add 9 = .ok (.iaload, 1) := by decide +kernel
theorem dX10_add_10 : decode cX10_add 10 = .ok (.iadd, 1) := by decide +kernel
theorem dX10_add_11 : decode cX10_add 11 = .ok (.istore 5, 2) := by decide +kernel
theorem dX10_add_13 : decode cX10_add 13 = .ok (.aload_n 0, 1) := by decide +kernel
theorem dX10_add_14 : decode cX10_add 14 = .ok (.getfield 22, 3) := by decide +kernel
theorem dX10_add_17 : decode cX10_add 17 = .ok (.iload 5, 2) := by decide +kernel
theorem dX10_add_19 : decode cX10_add 19 = .ok (.iload_n 2, 1) := by decide +kernel
theorem dX10_add_20 : decode cX10_add 20 = .ok (.iastore, 1) := by decide +kernel
theorem dX10_add_21 : decode cX10_add 21 = .ok (.aload_n 0, 1) := by decide +kernel
theorem dX10_add_22 : decode cX10_add 22 = .ok (.getfield 25, 3) := by decide +kernel
theorem dX10_add_25 : decode cX10_add 25 = .ok (.iload 5, 2) := by decide +kernel
theorem dX10_add_27 : decode cX10_add 27 = .ok (.iload_n 3, 1) := by decide +kernel
theorem dX10_add_28 : decode cX10_add 28 = .ok (.iastore, 1) := by decide +kernel
theorem dX10_add_29 : decode cX10_add 29 = .ok (.aload_n 0, 1) := by decide +kernel
theorem dX10_add_30 : decode cX10_add 30 = .ok (.getfield 28, 3) := by decide +kernel
theorem dX10_add_33 : decode cX10_add 33 = .ok (.iload 5, 2) := by decide +kernel
theorem dX10_add_35 : decode cX10_add 35 = .ok (.iload 4, 2) := by decide +kernel
theorem dX10_add_37 : decode cX10_add 37 = .ok (.iastore, 1) := by decide +kernel
theorem dX10_add_38 : decode cX10_add 38 = .ok (.aload_n 0, 1) := by decide +kernel
theorem dX10_add_39 : decode cX10_add 39 = .ok (.getfield 19, 3) := by decide +kernel
theorem dX10_add_42 : decode cX10_add 42 = .ok (.iload_n 1, 1) := by decide +kernel
theorem dX10_add_43 : decode cX10_add 43 = .ok (.dup2, 1) := by decide +kernel
theorem dX10_add_44 : decode cX10_add 44 = .ok (.iaload, 1) := by decide +kernel
theorem dX10_add_45 : decode cX10_add 45 = .ok (.iconst 1, 1) := by decide +kernel
theorem dX10_add_46 : decode cX10_add 46 = .ok (.iadd, 1) := by decide +kernel
theorem dX10_add_47 : decode cX10_add 47 = .ok (.iastore, 1) := by decide +kernel
theorem dX10_add_48 : decode cX10_add 48 = .ok (.return_, 1) := by decide +kernel
theorem dX10_layHalves_0 : decode cX10_layHalves 0 = .ok (.aload_n 0, 1) := by decide +kernel
theorem dX10_layHalves_1 : decode cX10_layHalves 1 = .ok (.getfield 19, 3) := by decide +kernel
theorem dX10_layHalves_4 : decode cX10_layHalves 4 = .ok (.iconst 2, 1) := by decide +kernel
theorem dX10_layHalves_5 : decode cX10_layHalves 5 = .ok (.iconst 0, 1) := by decide +kernel
theorem dX10_layHalves_6 : decode cX10_layHalves 6 = .ok (.iastore, 1) := by decide +kernel
theorem dX10_layHalves_7 : decode cX10_layHalves 7 = .ok (.aload_n 0, 1) := by decide +kernel
theorem dX10_layHalves_8 : decode cX10_layHalves 8 = .ok (.getfield 19, 3) := by decide +kernel
theorem dX10_layHalves_11 : decode cX10_layHalves 11 = .ok (.iconst 3, 1) := by decide +kernel
theorem dX10_layHalves_12 : decode cX10_layHalves 12 = .ok (.iconst 0, 1) := by decide +kernel
theorem dX10_layHalves_13 : decode cX10_layHalves 13 = .ok (.iastore, 1) := by decide +kernel
theorem dX10_layHalves_14 : decode cX10_layHalves 14 = .ok (.iconst 0, 1) := by decide +kernel
theorem dX10_layHalves_15 : decode cX10_layHalves 15 = .ok (.istore_n 1, 1) := by decide +kernel
theorem dX10_layHalves_16 : decode cX10_layHalves 16 = .ok (.iload_n 1, 1) := by decide +kernel
theorem dX10_layHalves_17 : decode cX10_layHalves 17 = .ok (.aload_n 0, 1) := by decide +kernel
theorem dX10_layHalves_18 : decode cX10_layHalves 18 = .ok (.getfield 19, 3) := by decide +kernel
theorem dX10_layHalves_21 : decode cX10_layHalves 21 = .ok (.iconst 0, 1) := by decide +kernel
theorem dX10_layHalves_22 : decode cX10_layHalves 22 = .ok (.iaload, 1) := by decide +kernel
theorem dX10_layHalves_23 : decode cX10_layHalves 23 = .ok (.if_icmp .ge 36, 3) := by decide +kernel
theorem dX10_layHalves_26 : decode cX10_layHalves 26 = .ok (.aload_n 0, 1) := by decide +kernel
theorem dX10_layHalves_27 : decode cX10_layHalves 27 = .ok (.iconst 2, 1) := by decide +kernel
theorem dX10_layHalves_28 : decode cX10_layHalves 28 = .ok (.iload_n 1, 1) := by decide +kernel
theorem dX10_layHalves_29 : decode cX10_layHalves 29 = .ok (.iconst 2, 1) := by decide +kernel
theorem dX10_layHalves_30 : decode cX10_layHalves 30 = .ok (.irem, 1) := by decide +kernel
theorem dX10_layHalves_31 : decode cX10_layHalves 31 = .ok (.iadd, 1) := by decide +kernel
theorem dX10_layHalves_32 : decode cX10_layHalves 32 = .ok (.aload_n 0, 1) := by decide +kernel
theorem dX10_layHalves_33 : decode cX10_layHalves 33 = .ok (.getfield 22, 3) := by decide +kernel
theorem dX10_layHalves_36 : decode cX10_layHalves 36 = .ok (.iload_n 1, 1) := by decide +kernel
theorem dX10_layHalves_37 : decode cX10_layHalves 37 = .ok (.iaload, 1) := by decide +kernel
theorem dX10_layHalves_38 : decode cX10_layHalves 38 = .ok (.aload_n 0, 1) := by decide +kernel
theorem dX10_layHalves_39 : decode cX10_layHalves 39 = .ok (.getfield 25, 3) := by decide +kernel
theorem dX10_layHalves_42 : decode cX10_layHalves 42 = .ok (.iload_n 1, 1) := by decide +kernel
theorem dX10_layHalves_43 : decode cX10_layHalves 43 = .ok (.iaload, 1) := by decide +kernel
theorem dX10_layHalves_44 : decode cX10_layHalves 44 = .ok (.aload_n 0, 1) := by decide +kernel
theorem dX10_layHalves_45 : decode cX10_layHalves 45 = .ok (.getfield 28, 3) := by decide +kernel
theorem dX10_layHalves_48 : decode cX10_layHalves 48 = .ok (.iload_n 1, 1) := by decide +kernel
theorem dX10_layHalves_49 : decode cX10_layHalves 49 = .ok (.iaload, 1) := by decide +kernel
theorem dX10_layHalves_50 : decode cX10_layHalves 50 = .ok (.invokevirtual 102, 3) := by decide +kernel
theorem dX10_layHalves_53 : decode cX10_layHalves 53 = .ok (.iinc 1 1, 3) := by decide +kernel
theorem dX10_layHalves_56 : decode cX10_layHalves 56 = .ok (.goto (-40), 3) := by decide +kernel
theorem dX10_layHalves_59 : decode cX10_layHalves 59 = .ok (.return_, 1) := by decide +kernel
theorem dX10_gapOf_0 : decode cX10_gapOf 0 = .ok (.bipush 40, 2) := by decide +kernel
theorem dX10_gapOf_2 : decode cX10_gapOf 2 = .ok (.iload_n 1, 1) := by decide +kernel
theorem dX10_gapOf_3 : decode cX10_gapOf 3 = .ok (.imul, 1) := by decide +kernel
theorem dX10_gapOf_4 : decode cX10_gapOf 4 = .ok (.iload_n 2, 1) := by decide +kernel
theorem dX10_gapOf_5 : decode cX10_gapOf 5 = .ok (.iadd, 1) := by decide +kernel
theorem dX10_gapOf_6 : decode cX10_gapOf 6 = .ok (.istore_n 3, 1) := by decide +kernel
theorem dX10_gapOf_7 : decode cX10_gapOf 7 = .ok (.iload_n 2, 1) := by decide +kernel
theorem dX10_gapOf_8 : decode cX10_gapOf 8 = .ok (.ifCond .ne 12, 3) := by decide +kernel
theorem dX10_gapOf_11 : decode cX10_gapOf 11 = .ok (.aload_n 0, 1) := by decide +kernel
theorem dX10_gapOf_12 : decode cX10_gapOf 12 = .ok (.getfield 22, 3) := by decide +kernel
theorem dX10_gapOf_15 : decode cX10_gapOf 15 = .ok (.iload_n 3, 1) := by decide +kernel
theorem dX10_gapOf_16 : decode cX10_gapOf 16 = .ok (.iaload, 1) := by decide +kernel
theorem dX10_gapOf_17 : decode cX10_gapOf 17 = .ok (.goto 18, 3) := by decide +kernel
theorem dX10_gapOf_20 : decode cX10_gapOf 20 = .ok (.aload_n 0, 1) := by decide +kernel
theorem dX10_gapOf_21 : decode cX10_gapOf 21 = .ok (.getfield 22, 3) := by decide +kernel
theorem dX10_gapOf_24 : decode cX10_gapOf 24 = .ok (.iload_n 3, 1) := by decide +kernel
theorem dX10_gapOf_25 : decode cX10_gapOf 25 = .ok (.iaload, 1) := by decide +kernel
theorem dX10_gapOf_26 : decode cX10_gapOf 26 = .ok (.aload_n 0, 1) := by decide +kernel
theorem dX10_gapOf_27 : decode cX10_gapOf 27 = .ok (.getfield 22, 3) := by decide +kernel
theorem dX10_gapOf_30 : decode cX10_gapOf 30 = .ok (.iload_n 3, 1) := by decide +kernel
theorem dX10_gapOf_31 : decode cX10_gapOf 31 = .ok (.iconst 1, 1) := by decide +kernel
theorem dX10_gapOf_32 : decode cX10_gapOf 32 = .ok (.isub, 1) := by decide +kernel
theorem dX10_gapOf_33 : decode cX10_gapOf 33 = .ok (.iaload, 1) := by decide +kernel
theorem dX10_gapOf_34 : decode cX10_gapOf 34 = .ok (.isub, 1) := by decide +kernel
theorem dX10_gapOf_35 : decode cX10_gapOf 35 = .ok (.ireturn, 1) := by decide +kernel
theorem dX10_depthOf_0 : decode cX10_depthOf 0 = .ok (.iconst 0, 1) := by decide +kernel
theorem dX10_depthOf_1 : decode cX10_depthOf 1 = .ok (.istore_n 3, 1) := by decide +kernel
theorem dX10_depthOf_2 : decode cX10_depthOf 2 = .ok (.iconst 0, 1) := by decide +kernel
theorem dX10_depthOf_3 : decode cX10_depthOf 3 = .ok (.istore 4, 2) := by decide +kernel
theorem dX10_depthOf_5 : decode cX10_depthOf 5 = .ok (.iload_n 2, 1) := by decide +kernel
theorem dX10_depthOf_6 : decode cX10_depthOf 6 = .ok (.iconst 1, 1) := by decide +kernel
theorem dX10_depthOf_7 : decode cX10_depthOf 7 = .ok (.isub, 1) := by decide +kernel
theorem dX10_depthOf_8 : decode cX10_depthOf 8 = .ok (.istore 5, 2) := by decide +kernel
theorem dX10_depthOf_10 : decode cX10_depthOf 10 = .ok (.iload 5, 2) := by decide +kernel
theorem dX10_depthOf_12 : decode cX10_depthOf 12 = .ok (.ifCond .lt 68, 3) := by decide +kernel
theorem dX10_depthOf_15 : decode cX10_depthOf 15 = .ok (.aload_n 0, 1) := by decide +kernel
theorem dX10_depthOf_16 : decode cX10_depthOf 16 = .ok (.getfield 25, 3) := by decide +kernel
theorem dX10_depthOf_19 : decode cX10_depthOf 19 = .ok (.bipush 40, 2) := by decide +kernel
theorem dX10_depthOf_21 : decode cX10_depthOf 21 = .ok (.iload_n 1, 1) := by decide +kernel
theorem dX10_depthOf_22 : decode cX10_depthOf 22 = .ok (.imul, 1) := by decide +kernel
theorem dX10_depthOf_23 : decode cX10_depthOf 23 = .ok (.iload 5, 2) := by decide +kernel
theorem dX10_depthOf_25 : decode cX10_depthOf 25 = .ok (.iadd, 1) := by decide +kernel
theorem dX10_depthOf_26 : decode cX10_depthOf 26 = .ok (.iaload, 1) := by decide +kernel
theorem dX10_depthOf_27 : decode cX10_depthOf 27 = .ok (.istore 6, 2) := by decide +kernel
theorem dX10_depthOf_29 : decode cX10_depthOf 29 = .ok (.iload 6, 2) := by decide +kernel
theorem dX10_depthOf_31 : decode cX10_depthOf 31 = .ok (.aload_n 0, 1) := by decide +kernel
theorem dX10_depthOf_32 : decode cX10_depthOf 32 = .ok (.getfield 25, 3) := by decide +kernel
theorem dX10_depthOf_35 : decode cX10_depthOf 35 = .ok (.bipush 40, 2) := by decide +kernel
theorem dX10_depthOf_37 : decode cX10_depthOf 37 = .ok (.iload_n 1, 1) := by decide +kernel
theorem dX10_depthOf_38 : decode cX10_depthOf 38 = .ok (.imul, 1) := by decide +kernel
theorem dX10_depthOf_39 : decode cX10_depthOf 39 = .ok (.iload_n 2, 1) := by decide +kernel
theorem dX10_depthOf_40 : decode cX10_depthOf 40 = .ok (.iadd, 1) := by decide +kernel
theorem dX10_depthOf_41 : decode cX10_depthOf 41 = .ok (.iaload, 1) := by decide +kernel
theorem dX10_depthOf_42 : decode cX10_depthOf 42 = .ok (.if_icmp .ne 6, 3) := by decide +kernel
theorem dX10_depthOf_45 : decode cX10_depthOf 45 = .ok (.iload 4, 2) := by decide +kernel
theorem dX10_depthOf_47 : decode cX10_depthOf 47 = .ok (.ireturn, 1) := by decide +kernel
theorem dX10_depthOf_48 : decode cX10_depthOf 48 = .ok (.iload 4, 2) := by decide +kernel
theorem dX10_depthOf_50 : decode cX10_depthOf 50 = .ok (.iload_n 3, 1) := by decide +kernel
theorem dX10_depthOf_51 : decode cX10_depthOf 51 = .ok (.iload 6, 2) := by decide +kernel
theorem dX10_depthOf_53 : decode cX10_depthOf 53 = .ok (.ishr, 1) := by decide +kernel
theorem dX10_depthOf_54 : decode cX10_depthOf 54 = .ok (.iconst 1, 1) := by decide +kernel
theorem dX10_depthOf_55 : decode cX10_depthOf 55 = .ok (.iand, 1) := by decide +kernel
theorem dX10_depthOf_56 : decode cX10_depthOf 56 = .ok (.ifCond .ne 7, 3) := by decide +kernel
theorem dX10_depthOf_59 : decode cX10_depthOf 59 = .ok (.iconst 1, 1) := by decide +kernel
theorem dX10_depthOf_60 : decode cX10_depthOf 60 = .ok (.goto 4, 3) := by decide +kernel
theorem dX10_depthOf_63 : decode cX10_depthOf 63 = .ok (.iconst 0, 1) := by decide +kernel
theorem dX10_depthOf_64 : decode cX10_depthOf 64 = .ok (.iadd, 1) := by decide +kernel
theorem dX10_depthOf_65 : decode cX10_depthOf 65 = .ok (.istore 4, 2) := by decide +kernel
theorem dX10_depthOf_67 : decode cX10_depthOf 67 = .ok (.iload_n 3, 1) := by decide +kernel
theorem dX10_depthOf_68 : decode cX10_depthOf 68 = .ok (.iconst 1, 1) := by decide +kernel
theorem dX10_depthOf_69 : decode cX10_depthOf 69 = .ok (.iload 6, 2) := by decide +kernel
theorem dX10_depthOf_71 : decode cX10_depthOf 71 = .ok (.ishl, 1) := by decide +kernel
theorem dX10_depthOf_72 : decode cX10_depthOf 72 = .ok (.ior, 1) := by decide +kernel
theorem dX10_depthOf_73 : decode cX10_depthOf 73 = .ok (.istore_n 3, 1) := by decide +kernel
theorem dX10_depthOf_74 : decode cX10_depthOf 74 = .ok (.iinc 5 (-1), 3) := by decide +kernel
theorem dX10_depthOf_77 : decode cX10_depthOf 77 = .ok (.goto (-67), 3) := by decide +kernel
theorem dX10_depthOf_80 : decode cX10_depthOf 80 = .ok (.ldc 106, 2) := by decide +kernel
theorem dX10_depthOf_82 : decode cX10_depthOf 82 = .ok (.ireturn, 1) := by decide +kernel
