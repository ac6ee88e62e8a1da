theorem dX10_worth_0 : decode cX10_worth 0 = .ok (.aload_n 0, 1) := by decide +kernel
theorem dX10_worth_1 : decode cX10_worth 1 = .ok (.iconst 0, 1) := by decide +kernel
theorem dX10_worth_2 : decode cX10_worth 2 = .ok (.putfield 78, 3) := by decide +kernel
theorem dX10_worth_5 : decode cX10_worth 5 = .ok (.iload_n 1, 1) := by decide +kernel
theorem dX10_worth_6 : decode cX10_worth 6 = .ok (.invokestatic 202, 3) := by decide +kernel
theorem dX10_worth_9 : decode cX10_worth 9 = .ok (.ifCond .eq 15, 3) := by decide +kernel
theorem dX10_worth_12 : decode cX10_worth 12 = .ok (.iload_n 2, 1) := by decide +kernel
theorem dX10_worth_13 : decode cX10_worth 13 = .ok (.i2l, 1) := by decide +kernel
theorem dX10_worth_14 : decode cX10_worth 14 = .ok (.lconst 0, 1) := by decide +kernel
theorem dX10_worth_15 : decode cX10_worth 15 = .ok (.ldc2_w 114, 3) := by decide +kernel
theorem dX10_worth_18 : decode cX10_worth 18 = .ok (.invokestatic 87, 3) := by decide +kernel
theorem dX10_worth_21 : decode cX10_worth 21 = .ok (.ifCond .ne 6, 3) := by decide +kernel
theorem dX10_worth_24 : decode cX10_worth 24 = .ok (.ldc 97, 2) := by decide +kernel
theorem dX10_worth_26 : decode cX10_worth 26 = .ok (.ireturn, 1) := by decide +kernel
theorem dX10_worth_27 : decode cX10_worth 27 = .ok (.aload_n 0, 1) := by decide +kernel
theorem dX10_worth_28 : decode cX10_worth 28 = .ok (.getfield 248, 3) := by decide +kernel
theorem dX10_worth_31 : decode cX10_worth 31 = .ok (.ifCond .ne 7, 3) := by decide +kernel
theorem dX10_worth_34 : decode cX10_worth 34 = .ok (.ldc_w 278, 3) := by decide +kernel
theorem dX10_worth_37 : decode cX10_worth 37 = .ok (.ireturn, 1) := by decide +kernel
theorem dX10_worth_38 : decode cX10_worth 38 = .ok (.aload_n 0, 1) := by decide +kernel
theorem dX10_worth_39 : decode cX10_worth 39 = .ok (.iconst 1, 1) := by decide +kernel
theorem dX10_worth_40 : decode cX10_worth 40 = .ok (.iload_n 2, 1) := by decide +kernel
theorem dX10_worth_41 : decode cX10_worth 41 = .ok (.invokevirtual 275, 3) := by decide +kernel
theorem dX10_worth_44 : decode cX10_worth 44 = .ok (.istore_n 3, 1) := by decide +kernel
theorem dX10_worth_45 : decode cX10_worth 45 = .ok (.aload_n 0, 1) := by decide +kernel
theorem dX10_worth_46 : decode cX10_worth 46 = .ok (.getfield 37, 3) := by decide +kernel
theorem dX10_worth_49 : decode cX10_worth 49 = .ok (.iload_n 1, 1) := by decide +kernel
theorem dX10_worth_50 : decode cX10_worth 50 = .ok (.baload, 1) := by decide +kernel
theorem dX10_worth_51 : decode cX10_worth 51 = .ok (.istore 4, 2) := by decide +kernel
theorem dX10_worth_53 : decode cX10_worth 53 = .ok (.aload_n 0, 1) := by decide +kernel
theorem dX10_worth_54 : decode cX10_worth 54 = .ok (.getfield 37, 3) := by decide +kernel
theorem dX10_worth_57 : decode cX10_worth 57 = .ok (.iload_n 1, 1) := by decide +kernel
theorem dX10_worth_58 : decode cX10_worth 58 = .ok (.iconst 1, 1) := by decide +kernel
theorem dX10_worth_59 : decode cX10_worth 59 = .ok (.bastore, 1) := by decide +kernel
theorem dX10_worth_60 : decode cX10_worth 60 = .ok (.aload_n 0, 1) := by decide +kernel
theorem dX10_worth_61 : decode cX10_worth 61 = .ok (.iconst 4, 1) := by decide +kernel
theorem dX10_worth_62 : decode cX10_worth 62 = .ok (.aload_n 0, 1) := by decide +kernel
theorem dX10_worth_63 : decode cX10_worth 63 = .ok (.getfield 252, 3) := by decide +kernel
theorem dX10_worth_66 : decode cX10_worth 66 = .ok (.aload_n 0, 1) := by decide +kernel
theorem dX10_worth_67 : decode cX10_worth 67 = .ok (.getfield 19, 3) := by decide +kernel
theorem dX10_worth_70 : decode cX10_worth 70 = .ok (.iconst 1, 1) := by decide +kernel
theorem dX10_worth_71 : decode cX10_worth 71 = .ok (.iaload, 1) := by decide +kernel
theorem dX10_worth_72 : decode cX10_worth 72 = .ok (.invokevirtual 244, 3) := by decide +kernel
theorem dX10_worth_75 : decode cX10_worth 75 = .ok (.aload_n 0, 1) := by decide +kernel
theorem dX10_worth_76 : decode cX10_worth 76 = .ok (.getfield 37, 3) := by decide +kernel
theorem dX10_worth_79 : decode cX10_worth 79 = .ok (.iload_n 1, 1) := by decide +kernel
theorem dX10_worth_80 : decode cX10_worth 80 = .ok (.iload 4, 2) := by decide +kernel
theorem dX10_worth_82 : decode cX10_worth 82 = .ok (.bastore, 1) := by decide +kernel
theorem dX10_worth_83 : decode cX10_worth 83 = .ok (.iload_n 3, 1) := by decide +kernel
theorem dX10_worth_84 : decode cX10_worth 84 = .ok (.aload_n 0, 1) := by decide +kernel
theorem dX10_worth_85 : decode cX10_worth 85 = .ok (.iconst 4, 1) := by decide +kernel
theorem dX10_worth_86 : decode cX10_worth 86 = .ok (.iload_n 2, 1) := by decide +kernel
theorem dX10_worth_87 : decode cX10_worth 87 = .ok (.invokevirtual 275, 3) := by decide +kernel
theorem dX10_worth_90 : decode cX10_worth 90 = .ok (.iconst (-1), 1) := by decide +kernel
theorem dX10_worth_91 : decode cX10_worth 91 = .ok (.ixor, 1) := by decide +kernel
theorem dX10_worth_92 : decode cX10_worth 92 = .ok (.iand, 1) := by decide +kernel
theorem dX10_worth_93 : decode cX10_worth 93 = .ok (.ireturn, 1) := by decide +kernel
theorem dX10_bitsOf_0 : decode cX10_bitsOf 0 = .ok (.iconst 0, 1) := by decide +kernel
theorem dX10_bitsOf_1 : decode cX10_bitsOf 1 = .ok (.istore_n 2, 1) := by decide +kernel
theorem dX10_bitsOf_2 : decode cX10_bitsOf 2 = .ok (.iload_n 0, 1) := by decide +kernel
theorem dX10_bitsOf_3 : decode cX10_bitsOf 3 = .ok (.istore_n 3, 1) := by decide +kernel
theorem dX10_bitsOf_4 : decode cX10_bitsOf 4 = .ok (.iload_n 3, 1) := by decide +kernel
theorem dX10_bitsOf_5 : decode cX10_bitsOf 5 = .ok (.iload_n 1, 1) := by decide +kernel
theorem dX10_bitsOf_6 : decode cX10_bitsOf 6 = .ok (.if_icmp .ge 13, 3) := by decide +kernel
theorem dX10_bitsOf_9 : decode cX10_bitsOf 9 = .ok (.iload_n 3, 1) := by decide +kernel
theorem dX10_bitsOf_10 : decode cX10_bitsOf 10 = .ok (.iconst 2, 1) := by decide +kernel
theorem dX10_bitsOf_11 : decode cX10_bitsOf 11 = .ok (.imul, 1) := by decide +kernel
theorem dX10_bitsOf_12 : decode cX10_bitsOf 12 = .ok (.istore_n 3, 1) := by decide +kernel
theorem dX10_bitsOf_13 : decode cX10_bitsOf 13 = .ok (.iinc 2 1, 3) := by decide +kernel
theorem dX10_bitsOf_16 : decode cX10_bitsOf 16 = .ok (.goto (-12), 3) := by decide +kernel
theorem dX10_bitsOf_19 : decode cX10_bitsOf 19 = .ok (.iload_n 2, 1) := by decide +kernel
theorem dX10_bitsOf_20 : decode cX10_bitsOf 20 = .ok (.ireturn, 1) := by decide +kernel
theorem dX10_costOf_0 : decode cX10_costOf 0 = .ok (.iconst 0, 1) := by decide +kernel
theorem dX10_costOf_1 : decode cX10_costOf 1 = .ok (.istore 4, 2) := by decide +kernel
theorem dX10_costOf_3 : decode cX10_costOf 3 = .ok (.iconst 0, 1) := by decide +kernel
theorem dX10_costOf_4 : decode cX10_costOf 4 = .ok (.istore 5, 2) := by decide +kernel
theorem dX10_costOf_6 : decode cX10_costOf 6 = .ok (.iload_n 1, 1) := by decide +kernel
theorem dX10_costOf_7 : decode cX10_costOf 7 = .ok (.invokestatic 205, 3) := by decide +kernel
theorem dX10_costOf_10 : decode cX10_costOf 10 = .ok (.istore 6, 2) := by decide +kernel
theorem dX10_costOf_12 : decode cX10_costOf 12 = .ok (.iload 6, 2) := by decide +kernel
theorem dX10_costOf_14 : decode cX10_costOf 14 = .ok (.iload_n 1, 1) := by decide +kernel
theorem dX10_costOf_15 : decode cX10_costOf 15 = .ok (.invokestatic 208, 3) := by decide +kernel
theorem dX10_costOf_18 : decode cX10_costOf 18 = .ok (.if_icmp .gt 48, 3) := by decide +kernel
theorem dX10_costOf_21 : decode cX10_costOf 21 = .ok (.iload 5, 2) := by decide +kernel
theorem dX10_costOf_23 : decode cX10_costOf 23 = .ok (.iload_n 3, 1) := by decide +kernel
theorem dX10_costOf_24 : decode cX10_costOf 24 = .ok (.ifCond .eq 7, 3) := by decide +kernel
theorem dX10_costOf_27 : decode cX10_costOf 27 = .ok (.iconst 0, 1) := by decide +kernel
theorem dX10_costOf_28 : decode cX10_costOf 28 = .ok (.goto 7, 3) := by decide +kernel
theorem dX10_costOf_31 : decode cX10_costOf 31 = .ok (.aload_n 2, 1) := by decide +kernel
theorem dX10_costOf_32 : decode cX10_costOf 32 = .ok (.iload 6, 2) := by decide +kernel
theorem dX10_costOf_34 : decode cX10_costOf 34 = .ok (.iaload, 1) := by decide +kernel
theorem dX10_costOf_35 : decode cX10_costOf 35 = .ok (.iadd, 1) := by decide +kernel
theorem dX10_costOf_36 : decode cX10_costOf 36 = .ok (.istore 5, 2) := by decide +kernel
theorem dX10_costOf_38 : decode cX10_costOf 38 = .ok (.iload 4, 2) := by decide +kernel
theorem dX10_costOf_40 : decode cX10_costOf 40 = .ok (.iload_n 3, 1) := by decide +kernel
theorem dX10_costOf_41 : decode cX10_costOf 41 = .ok (.ifCond .ne 15, 3) := by decide +kernel
theorem dX10_costOf_44 : decode cX10_costOf 44 = .ok (.aload_n 2, 1) := by decide +kernel
theorem dX10_costOf_45 : decode cX10_costOf 45 = .ok (.iload 6, 2) := by decide +kernel
theorem dX10_costOf_47 : decode cX10_costOf 47 = .ok (.iaload, 1) := by decide +kernel
theorem dX10_costOf_48 : decode cX10_costOf 48 = .ok (.ifCond .le 8, 3) := by decide +kernel
theorem dX10_costOf_51 : decode cX10_costOf 51 = .ok (.bipush 8, 2) := by decide +kernel
theorem dX10_costOf_53 : decode cX10_costOf 53 = .ok (.goto 4, 3) := by decide +kernel
theorem dX10_costOf_56 : decode cX10_costOf 56 = .ok (.iconst 0, 1) := by decide +kernel
theorem dX10_costOf_57 : decode cX10_costOf 57 = .ok (.iadd, 1) := by decide +kernel
theorem dX10_costOf_58 : decode cX10_costOf 58 = .ok (.istore 4, 2) := by decide +kernel
theorem dX10_costOf_60 : decode cX10_costOf 60 = .ok (.iinc 6 1, 3) := by decide +kernel
theorem dX10_costOf_63 : decode cX10_costOf 63 = .ok (.goto (-51), 3) := by decide +kernel
theorem dX10_costOf_66 : decode cX10_costOf 66 = .ok (.iconst 0, 1) := by decide +kernel
theorem dX10_costOf_67 : decode cX10_costOf 67 = .ok (.istore 6, 2) := by decide +kernel
theorem dX10_costOf_69 : decode cX10_costOf 69 = .ok (.iload 6, 2) := by decide +kernel
theorem dX10_costOf_71 : decode cX10_costOf 71 = .ok (.aload_n 0, 1) := by decide +kernel
theorem dX10_costOf_72 : decode cX10_costOf 72 = .ok (.getfield 19, 3) := by decide +kernel
theorem dX10_costOf_75 : decode cX10_costOf 75 = .ok (.iconst 0, 1) := by decide +kernel
theorem dX10_costOf_76 : decode cX10_costOf 76 = .ok (.iaload, 1) := by decide +kernel
theorem dX10_costOf_77 : decode cX10_costOf 77 = .ok (.if_icmp .ge 130, 3) := by decide +kernel
theorem dX10_costOf_80 : decode cX10_costOf 80 = .ok (.iload_n 1, 1) := by decide +kernel
theorem dX10_costOf_81 : decode cX10_costOf 81 = .ok (.iconst 3, 1) := by decide +kernel
theorem dX10_costOf_82 : decode cX10_costOf 82 = .ok (.if_icmp .ge 125, 3) := by decide +kernel
theorem dX10_costOf_85 : decode cX10_costOf 85 = .ok (.iload_n 1, 1) := by decide +kernel
theorem dX10_costOf_86 : decode cX10_costOf 86 = .ok (.iconst 1, 1) := by decide +kernel
theorem dX10_costOf_87 : decode cX10_costOf 87 = .ok (.if_icmp .ne 13, 3) := by decide +kernel
theorem dX10_costOf_90 : decode cX10_costOf 90 = .ok (.aload_n 0, 1) := by decide +kernel
theorem dX10_costOf_91 : decode cX10_costOf 91 = .ok (.iconst 0, 1) := by decide +kernel
theorem dX10_costOf_92 : decode cX10_costOf 92 = .ok (.iload 6, 2) := by decide +kernel
theorem dX10_costOf_94 : decode cX10_costOf 94 = .ok (.invokevirtual 116, 3) := by decide +kernel
theorem dX10_costOf_97 : decode cX10_costOf 97 = .ok (.goto 4, 3) := by decide +kernel
theorem dX10_costOf_100 : decode cX10_costOf 100 = .ok (.iconst 0, 1) := by decide +kernel
theorem dX10_costOf_101 : decode cX10_costOf 101 = .ok (.istore 7, 2) := by decide +kernel
theorem dX10_costOf_103 : decode cX10_costOf 103 = .ok (.aload_n 0, 1) := by decide +kernel
theorem dX10_costOf_104 : decode cX10_costOf 104 = .ok (.iconst 0, 1) := by decide +kernel
theorem dX10_costOf_105 : decode cX10_costOf 105 = .ok (.iload 6, 2) := by decide +kernel
theorem dX10_costOf_107 : decode cX10_costOf 107 = .ok (.invokevirtual 120, 3) := by decide +kernel
theorem dX10_costOf_110 : decode cX10_costOf 110 = .ok (.istore 8, 2) := by decide +kernel
theorem dX10_costOf_112 : decode cX10_costOf 112 = .ok (.iload_n 1, 1) := by decide +kernel
theorem dX10_costOf_113 : decode cX10_costOf 113 = .ok (.ifCond .ne 23, 3) := by decide +kernel
theorem dX10_costOf_116 : decode cX10_costOf 116 = .ok (.iload 8, 2) := by decide +kernel
theorem dX10_costOf_118 : decode cX10_costOf 118 = .ok (.bipush 9, 2) := by decide +kernel
theorem dX10_costOf_120 : decode cX10_costOf 120 = .ok (.if_icmp .le 7, 3) := by decide +kernel
theorem dX10_costOf_123 : decode cX10_costOf 123 = .ok (.iconst 0, 1) := by decide +kernel
theorem dX10_costOf_124 : decode cX10_costOf 124 = .ok (.goto 51, 3) := by decide +kernel
theorem dX10_costOf_127 : decode cX10_costOf 127 = .ok (.aload_n 2, 1) := by decide +kernel
theorem dX10_costOf_128 : decode cX10_costOf 128 = .ok (.iconst 0, 1) := by decide +kernel
theorem dX10_costOf_129 : decode cX10_costOf 129 = .ok (.iload 8, 2) := by decide +kernel
theorem dX10_costOf_131 : decode cX10_costOf 131 = .ok (.iadd, 1) := by decide +kernel
theorem dX10_costOf_132 : decode cX10_costOf 132 = .ok (.iaload, 1) := by decide +kernel
theorem dX10_costOf_133 : decode cX10_costOf 133 = .ok (.goto 42, 3) := by decide +kernel
theorem dX10_costOf_136 : decode cX10_costOf 136 = .ok (.iload_n 1, 1) := by decide +kernel
theorem dX10_costOf_137 : decode cX10_costOf 137 = .ok (.iconst 1, 1) := by decide +kernel
theorem dX10_costOf_138 : decode cX10_costOf 138 = .ok (.if_icmp .ne 25, 3) := by decide +kernel
theorem dX10_costOf_141 : decode cX10_costOf 141 = .ok (.aload_n 2, 1) := by decide +kernel
theorem dX10_costOf_142 : decode cX10_costOf 142 = .ok (.iload 7, 2) := by decide +kernel
theorem dX10_costOf_144 : decode cX10_costOf 144 = .ok (.ldc 106, 2) := by decide +kernel
theorem dX10_costOf_146 : decode cX10_costOf 146 = .ok (.if_icmp .ne 8, 3) := by decide +kernel
theorem dX10_costOf_149 : decode cX10_costOf 149 = .ok (.bipush 20, 2) := by decide +kernel
theorem dX10_costOf_151 : decode cX10_costOf 151 = .ok (.goto 8, 3) := by decide +kernel
theorem dX10_costOf_154 : decode cX10_costOf 154 = .ok (.bipush 10, 2) := by decide +kernel
theorem dX10_costOf_156 : decode cX10_costOf 156 = .ok (.iload 7, 2) := by decide +kernel
theorem dX10_costOf_158 : decode cX10_costOf 158 = .ok (.iadd, 1) := by decide +kernel
theorem dX10_costOf_159 : decode cX10_costOf 159 = .ok (.iaload, 1) := by decide +kernel
theorem dX10_costOf_160 : decode cX10_costOf 160 = .ok (.goto 15, 3) := by decide +kernel
theorem dX10_costOf_163 : decode cX10_costOf 163 = .ok (.aload_n 2, 1) := by decide +kernel
theorem dX10_costOf_164 : decode cX10_costOf 164 = .ok (.bipush 30, 2) := by decide +kernel
theorem dX10_costOf_166 : decode cX10_costOf 166 = .ok (.aload_n 0, 1) := by decide +kernel
theorem dX10_costOf_167 : decode cX10_costOf 167 = .ok (.getfield 28, 3) := by decide +kernel
theorem dX10_costOf_170 : decode cX10_costOf 170 = .ok (.iload 6, 2) := by decide +kernel
theorem dX10_costOf_172 : decode cX10_costOf 172 = .ok (.iaload, 1) := by decide +kernel
theorem dX10_costOf_173 : decode cX10_costOf 173 = .ok (.iadd, 1) := by decide +kernel
theorem dX10_costOf_174 : decode cX10_costOf 174 = .ok (.iaload, 1) := by decide +kernel
theorem dX10_costOf_175 : decode cX10_costOf 175 = .ok (.istore 9, 2) := by decide +kernel
theorem dX10_costOf_177 : decode cX10_costOf 177 = .ok (.iload_n 3, 1) := by decide +kernel
theorem dX10_costOf_178 : decode cX10_costOf 178 = .ok (.ifCond .ne 8, 3) := by decide +kernel
theorem dX10_costOf_181 : decode cX10_costOf 181 = .ok (.iload 9, 2) := by decide +kernel
theorem dX10_costOf_183 : decode cX10_costOf 183 = .ok (.ifCond .ne 6, 3) := by decide +kernel
theorem dX10_costOf_186 : decode cX10_costOf 186 = .ok (.ldc 106, 2) := by decide +kernel
theorem dX10_costOf_188 : decode cX10_costOf 188 = .ok (.ireturn, 1) := by decide +kernel
theorem dX10_costOf_189 : decode cX10_costOf 189 = .ok (.iload 4, 2) := by decide +kernel
theorem dX10_costOf_191 : decode cX10_costOf 191 = .ok (.iload 9, 2) := by decide +kernel
theorem dX10_costOf_193 : decode cX10_costOf 193 = .ok (.iload 5, 2) := by decide +kernel
theorem dX10_costOf_195 : decode cX10_costOf 195 = .ok (.invokestatic 279, 3) := by decide +kernel
theorem dX10_costOf_198 : decode cX10_costOf 198 = .ok (.iadd, 1) := by decide +kernel
theorem dX10_costOf_199 : decode cX10_costOf 199 = .ok (.istore 4, 2) := by decide +kernel
theorem dX10_costOf_201 : decode cX10_costOf 201 = .ok (.iinc 6 1, 3) := by decide +kernel
theorem dX10_costOf_204 : decode cX10_costOf 204 = .ok (.goto (-135), 3) := by decide +kernel
theorem dX10_costOf_207 : decode cX10_costOf 207 = .ok (.iload 4, 2) := by decide +kernel
theorem dX10_costOf_209 : decode cX10_costOf 209 = .ok (.ireturn, 1) := by decide +kernel
theorem dX10_cost_0 : decode cX10_cost 0 = .ok (.aload_n 0, 1) := by decide +kernel
theorem dX10_cost_1 : decode cX10_cost 1 = .ok (.iconst 0, 1) := by decide +kernel
theorem dX10_cost_2 : decode cX10_cost 2 = .ok (.putfield 78, 3) := by decide +kernel
theorem dX10_cost_5 : decode cX10_cost 5 = .ok (.iload_n 1, 1) := by decide +kernel
theorem dX10_cost_6 : decode cX10_cost 6 = .ok (.invokestatic 202, 3) := by decide +kernel
theorem dX10_cost_9 : decode cX10_cost 9 = .ok (.ifCond .eq 21, 3) := by decide +kernel
theorem dX10_cost_12 : decode cX10_cost 12 = .ok (.aload_n 0, 1) := by decide +kernel
theorem dX10_cost_13 : decode cX10_cost 13 = .ok (.iload_n 1, 1) := by decide +kernel
theorem dX10_cost_14 : decode cX10_cost 14 = .ok (.aload_n 0, 1) := by decide +kernel
theorem dX10_cost_15 : decode cX10_cost 15 = .ok (.getfield 31, 3) := by decide +kernel
theorem dX10_cost_18 : decode cX10_cost 18 = .ok (.aload_n 0, 1) := by decide +kernel
theorem dX10_cost_19 : decode cX10_cost 19 = .ok (.getfield 37, 3) := by decide +kernel
theorem dX10_cost_22 : decode cX10_cost 22 = .ok (.iload_n 1, 1) := by decide +kernel
theorem dX10_cost_23 : decode cX10_cost 23 = .ok (.baload, 1) := by decide +kernel
theorem dX10_cost_24 : decode cX10_cost 24 = .ok (.invokevirtual 282, 3) := by decide +kernel
theorem dX10_cost_27 : decode cX10_cost 27 = .ok (.goto 5, 3) := by decide +kernel
theorem dX10_cost_30 : decode cX10_cost 30 = .ok (.ldc 97, 2) := by decide +kernel
theorem dX10_cost_32 : decode cX10_cost 32 = .ok (.ireturn, 1) := by decide +kernel
theorem dX10_shapeTo_0 : decode cX10_shapeTo 0 = .ok (.iconst 0, 1) := by decide +kernel
theorem dX10_shapeTo_1 : decode cX10_shapeTo 1 = .ok (.istore 4, 2) := by decide +kernel
theorem dX10_shapeTo_3 : decode cX10_shapeTo 3 = .ok (.iload 4, 2) := by decide +kernel
theorem dX10_shapeTo_5 : decode cX10_shapeTo 5 = .ok (.bipush 10, 2) := by decide +kernel
theorem dX10_shapeTo_7 : decode cX10_shapeTo 7 = .ok (.if_icmp .ge 64, 3) := by decide +kernel
theorem dX10_shapeTo_10 : decode cX10_shapeTo 10 = .ok (.aload_n 1, 1) := by decide +kernel
theorem dX10_shapeTo_11 : decode cX10_shapeTo 11 = .ok (.bipush 10, 2) := by decide +kernel
theorem dX10_shapeTo_13 : decode cX10_shapeTo 13 = .ok (.iload 4, 2) := by decide +kernel
theorem dX10_shapeTo_15 : decode cX10_shapeTo 15 = .ok (.iadd, 1) := by decide +kernel
theorem dX10_shapeTo_16 : decode cX10_shapeTo 16 = .ok (.iload_n 2, 1) := by decide +kernel
theorem dX10_shapeTo_17 : decode cX10_shapeTo 17 = .ok (.ifCond .ne 8, 3) := by decide +kernel
theorem dX10_shapeTo_20 : decode cX10_shapeTo 20 = .ok (.bipush 9, 2) := by decide +kernel
theorem dX10_shapeTo_22 : decode cX10_shapeTo 22 = .ok (.goto 42, 3) := by decide +kernel
theorem dX10_shapeTo_25 : decode cX10_shapeTo 25 = .ok (.iload_n 2, 1) := by decide +kernel
theorem dX10_shapeTo_26 : decode cX10_shapeTo 26 = .ok (.iconst 1, 1) := by decide +kernel
theorem dX10_shapeTo_27 : decode cX10_shapeTo 27 = .ok (.if_icmp .ne 11, 3) := by decide +kernel
theorem dX10_shapeTo_30 : decode cX10_shapeTo 30 = .ok (.bipush 10, 2) := by decide +kernel
theorem dX10_shapeTo_32 : decode cX10_shapeTo 32 = .ok (.iload 4, 2) := by decide +kernel
theorem dX10_shapeTo_34 : decode cX10_shapeTo 34 = .ok (.isub, 1) := by decide +kernel
theorem dX10_shapeTo_35 : decode cX10_shapeTo 35 = .ok (.goto 29, 3) := by decide +kernel
theorem dX10_shapeTo_38 : decode cX10_shapeTo 38 = .ok (.iload_n 2, 1) := by decide +kernel
theorem dX10_shapeTo_39 : decode cX10_shapeTo 39 = .ok (.iconst 2, 1) := by decide +kernel
theorem dX10_shapeTo_40 : decode cX10_shapeTo 40 = .ok (.if_icmp .ne 13, 3) := by decide +kernel
theorem dX10_shapeTo_43 : decode cX10_shapeTo 43 = .ok (.bipush 9, 2) := by decide +kernel
theorem dX10_shapeTo_45 : decode cX10_shapeTo 45 = .ok (.iload 4, 2) := by decide +kernel
theorem dX10_shapeTo_47 : decode cX10_shapeTo 47 = .ok (.iconst 1, 1) := by decide +kernel
theorem dX10_shapeTo_48 : decode cX10_shapeTo 48 = .ok (.iadd, 1) := by decide +kernel
theorem dX10_shapeTo_49 : decode cX10_shapeTo 49 = .ok (.idiv, 1) := by decide +kernel
theorem dX10_shapeTo_50 : decode cX10_shapeTo 50 = .ok (.goto 14, 3) := by decide +kernel
theorem dX10_shapeTo_53 : decode cX10_shapeTo 53 = .ok (.iload 4, 2) := by decide +kernel
theorem dX10_shapeTo_55 : decode cX10_shapeTo 55 = .ok (.ifCond .ne 8, 3) := by decide +kernel
theorem dX10_shapeTo_58 : decode cX10_shapeTo 58 = .ok (.bipush 9, 2) := by decide +kernel
theorem dX10_shapeTo_60 : decode cX10_shapeTo 60 = .ok (.goto 4, 3) := by decide +kernel
theorem dX10_shapeTo_63 : decode cX10_shapeTo 63 = .ok (.iconst 1, 1) := by decide +kernel
theorem dX10_shapeTo_64 : decode cX10_shapeTo 64 = .ok (.iastore, 1) := by decide +kernel
theorem dX10_shapeTo_65 : decode cX10_shapeTo 65 = .ok (.iinc 4 1, 3) := by decide +kernel
theorem dX10_shapeTo_68 : decode cX10_shapeTo 68 = .ok (.goto (-65), 3) := by decide +kernel
theorem dX10_shapeTo_71 : decode cX10_shapeTo 71 = .ok (.aload_n 1, 1) := by decide +kernel
theorem dX10_shapeTo_72 : decode cX10_shapeTo 72 = .ok (.bipush 20, 2) := by decide +kernel
theorem dX10_shapeTo_74 : decode cX10_shapeTo 74 = .ok (.iload_n 3, 1) := by decide +kernel
theorem dX10_shapeTo_75 : decode cX10_shapeTo 75 = .ok (.iastore, 1) := by decide +kernel
theorem dX10_shapeTo_76 : decode cX10_shapeTo 76 = .ok (.return_, 1) := by decide +kernel
theorem dX10_best_0 : decode cX10_best 0 = .ok (.aload_n 0, 1) := by decide +kernel
theorem dX10_best_1 : decode cX10_best 1 = .ok (.iconst 0, 1) := by decide +kernel
theorem dX10_best_2 : decode cX10_best 2 = .ok (.putfield 78, 3) := by decide +kernel
theorem dX10_best_5 : decode cX10_best 5 = .ok (.iload_n 1, 1) := by decide +kernel
theorem dX10_best_6 : decode cX10_best 6 = .ok (.i2l, 1) := by decide +kernel
theorem dX10_best_7 : decode cX10_best 7 = .ok (.lconst 0, 1) := by decide +kernel
theorem dX10_best_8 : decode cX10_best 8 = .ok (.lconst 1, 1) := by decide +kernel
theorem dX10_best_9 : decode cX10_best 9 = .ok (.invokestatic 87, 3) := by decide +kernel
theorem dX10_best_12 : decode cX10_best 12 = .ok (.ifCond .ne 6, 3) := by decide +kernel
theorem dX10_best_15 : decode cX10_best 15 = .ok (.ldc 97, 2) := by decide +kernel
theorem dX10_best_17 : decode cX10_best 17 = .ok (.ireturn, 1) := by decide +kernel
theorem dX10_best_18 : decode cX10_best 18 = .ok (.aload_n 0, 1) := by decide +kernel
theorem dX10_best_19 : decode cX10_best 19 = .ok (.getfield 19, 3) := by decide +kernel
theorem dX10_best_22 : decode cX10_best 22 = .ok (.iconst 0, 1) := by decide +kernel
theorem dX10_best_23 : decode cX10_best 23 = .ok (.iaload, 1) := by decide +kernel
theorem dX10_best_24 : decode cX10_best 24 = .ok (.ifCond .ne 7, 3) := by decide +kernel
theorem dX10_best_27 : decode cX10_best 27 = .ok (.ldc_w 278, 3) := by decide +kernel
theorem dX10_best_30 : decode cX10_best 30 = .ok (.ireturn, 1) := by decide +kernel
theorem dX10_best_31 : decode cX10_best 31 = .ok (.ldc 106, 2) := by decide +kernel
theorem dX10_best_33 : decode cX10_best 33 = .ok (.istore_n 2, 1) := by decide +kernel
theorem dX10_best_34 : decode cX10_best 34 = .ok (.ldc 106, 2) := by decide +kernel
theorem dX10_best_36 : decode cX10_best 36 = .ok (.istore_n 3, 1) := by decide +kernel
theorem dX10_best_37 : decode cX10_best 37 = .ok (.iconst 0, 1) := by decide +kernel
theorem dX10_best_38 : decode cX10_best 38 = .ok (.istore 4, 2) := by decide +kernel
theorem dX10_best_40 : decode cX10_best 40 = .ok (.iload 4, 2) := by decide +kernel
theorem dX10_best_42 : decode cX10_best 42 = .ok (.iconst 4, 1) := by decide +kernel
theorem dX10_best_43 : decode cX10_best 43 = .ok (.if_icmp .ge 80, 3) := by decide +kernel
theorem dX10_best_46 : decode cX10_best 46 = .ok (.iconst 1, 1) := by decide +kernel
theorem dX10_best_47 : decode cX10_best 47 = .ok (.istore 5, 2) := by decide +kernel
theorem dX10_best_49 : decode cX10_best 49 = .ok (.iload 5, 2) := by decide +kernel
theorem dX10_best_51 : decode cX10_best 51 = .ok (.bipush 10, 2) := by decide +kernel
theorem dX10_best_53 : decode cX10_best 53 = .ok (.if_icmp .ge 64, 3) := by decide +kernel
theorem dX10_best_56 : decode cX10_best 56 = .ok (.aload_n 0, 1) := by decide +kernel
theorem dX10_best_57 : decode cX10_best 57 = .ok (.aload_n 0, 1) := by decide +kernel
theorem dX10_best_58 : decode cX10_best 58 = .ok (.getfield 34, 3) := by decide +kernel
theorem dX10_best_61 : decode cX10_best 61 = .ok (.iload 4, 2) := by decide +kernel
theorem dX10_best_63 : decode cX10_best 63 = .ok (.iload 5, 2) := by decide +kernel
theorem dX10_best_65 : decode cX10_best 65 = .ok (.invokevirtual 286, 3) := by decide +kernel
theorem dX10_best_68 : decode cX10_best 68 = .ok (.aload_n 0, 1) := by decide +kernel
theorem dX10_best_69 : decode cX10_best 69 = .ok (.iconst 1, 1) := by decide +kernel
theorem dX10_best_70 : decode cX10_best 70 = .ok (.aload_n 0, 1) := by decide +kernel
theorem dX10_best_71 : decode cX10_best 71 = .ok (.getfield 34, 3) := by decide +kernel
theorem dX10_best_74 : decode cX10_best 74 = .ok (.iconst 0, 1) := by decide +kernel
theorem dX10_best_75 : decode cX10_best 75 = .ok (.invokevirtual 282, 3) := by decide +kernel
theorem dX10_best_78 : decode cX10_best 78 = .ok (.istore 6, 2) := by decide +kernel
theorem dX10_best_80 : decode cX10_best 80 = .ok (.iload 6, 2) := by decide +kernel
theorem dX10_best_82 : decode cX10_best 82 = .ok (.ldc 106, 2) := by decide +kernel
theorem dX10_best_84 : decode cX10_best 84 = .ok (.if_icmp .eq 27, 3) := by decide +kernel
theorem dX10_best_87 : decode cX10_best 87 = .ok (.iload_n 2, 1) := by decide +kernel
theorem dX10_best_88 : decode cX10_best 88 = .ok (.ldc 106, 2) := by decide +kernel
theorem dX10_best_90 : decode cX10_best 90 = .ok (.if_icmp .eq 9, 3) := by decide +kernel
theorem dX10_best_93 : decode cX10_best 93 = .ok (.iload 6, 2) := by decide +kernel
theorem dX10_best_95 : decode cX10_best 95 = .ok (.iload_n 3, 1) := by decide +kernel
theorem dX10_best_96 : decode cX10_best 96 = .ok (.if_icmp .ge 15, 3) := by decide +kernel
theorem dX10_best_99 : decode cX10_best 99 = .ok (.bipush 10, 2) := by decide +kernel
theorem dX10_best_101 : decode cX10_best 101 = .ok (.iload 4, 2) := by decide +kernel
theorem dX10_best_103 : decode cX10_best 103 = .ok (.imul, 1) := by decide +kernel
theorem dX10_best_104 : decode cX10_best 104 = .ok (.iload 5, 2) := by decide +kernel
theorem dX10_best_106 : decode cX10_best 106 = .ok (.iadd, 1) := by decide +kernel
theorem dX10_best_107 : decode cX10_best 107 = .ok (.istore_n 2, 1) := by decide +kernel
theorem dX10_best_108 : decode cX10_best 108 = .ok (.iload 6, 2) := by decide +kernel
theorem dX10_best_110 : decode cX10_best 110 = .ok (.istore_n 3, 1) := by decide +kernel
theorem dX10_best_111 : decode cX10_best 111 = .ok (.iinc 5 1, 3) := by decide +kernel
theorem dX10_best_114 : decode cX10_best 114 = .ok (.goto (-65), 3) := by decide +kernel
theorem dX10_best_117 : decode cX10_best 117 = .ok (.iinc 4 1, 3) := by decide +kernel
theorem dX10_best_120 : decode cX10_best 120 = .ok (.goto (-80), 3) := by decide +kernel
theorem dX10_best_123 : decode cX10_best 123 = .ok (.iload_n 1, 1) := by decide +kernel
theorem dX10_best_124 : decode cX10_best 124 = .ok (.ifCond .ne 7, 3) := by decide +kernel
theorem dX10_best_127 : decode cX10_best 127 = .ok (.iload_n 2, 1) := by decide +kernel
theorem dX10_best_128 : decode cX10_best 128 = .ok (.goto 4, 3) := by decide +kernel
theorem dX10_best_131 : decode cX10_best 131 = .ok (.iload_n 3, 1) := by decide +kernel
theorem dX10_best_132 : decode cX10_best 132 = .ok (.ireturn, 1) := by decide +kernel
theorem dX10_shape_0 : decode cX10_shape 0 = .ok (.aload_n 0, 1) := by decide +kernel
theorem dX10_shape_1 : decode cX10_shape 1 = .ok (.iconst 0, 1) := by decide +kernel
theorem dX10_shape_2 : decode cX10_shape 2 = .ok (.putfield 78, 3) := by decide +kernel
theorem dX10_shape_5 : decode cX10_shape 5 = .ok (.iload_n 1, 1) := by decide +kernel
theorem dX10_shape_6 : decode cX10_shape 6 = .ok (.i2l, 1) := by decide +kernel
theorem dX10_shape_7 : decode cX10_shape 7 = .ok (.lconst 0, 1) := by decide +kernel
theorem dX10_shape_8 : decode cX10_shape 8 = .ok (.ldc2_w 128, 3) := by decide +kernel
theorem dX10_shape_11 : decode cX10_shape 11 = .ok (.invokestatic 87, 3) := by decide +kernel
theorem dX10_shape_14 : decode cX10_shape 14 = .ok (.ifCond .eq 15, 3) := by decide +kernel
theorem dX10_shape_17 : decode cX10_shape 17 = .ok (.iload_n 2, 1) := by decide +kernel
theorem dX10_shape_18 : decode cX10_shape 18 = .ok (.i2l, 1) := by decide +kernel
theorem dX10_shape_19 : decode cX10_shape 19 = .ok (.lconst 1, 1) := by decide +kernel
theorem dX10_shape_20 : decode cX10_shape 20 = .ok (.ldc2_w 112, 3) := by decide +kernel
theorem dX10_shape_23 : decode cX10_shape 23 = .ok (.invokestatic 87, 3) := by decide +kernel
theorem dX10_shape_26 : decode cX10_shape 26 = .ok (.ifCond .ne 6, 3) := by decide +kernel
theorem dX10_shape_29 : decode cX10_shape 29 = .ok (.ldc 97, 2) := by decide +kernel
theorem dX10_shape_31 : decode cX10_shape 31 = .ok (.ireturn, 1) := by decide +kernel
theorem dX10_shape_32 : decode cX10_shape 32 = .ok (.aload_n 0, 1) := by decide +kernel
theorem dX10_shape_33 : decode cX10_shape 33 = .ok (.aload_n 0, 1) := by decide +kernel
theorem dX10_shape_34 : decode cX10_shape 34 = .ok (.getfield 31, 3) := by decide +kernel
theorem dX10_shape_37 : decode cX10_shape 37 = .ok (.iload_n 1, 1) := by decide +kernel
theorem dX10_shape_38 : decode cX10_shape 38 = .ok (.iload_n 2, 1) := by decide +kernel
theorem dX10_shape_39 : decode cX10_shape 39 = .ok (.invokevirtual 286, 3) := by decide +kernel
theorem dX10_shape_42 : decode cX10_shape 42 = .ok (.iconst 1, 1) := by decide +kernel
theorem dX10_shape_43 : decode cX10_shape 43 = .ok (.ireturn, 1) := by decide +kernel
