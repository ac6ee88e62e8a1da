theorem dX10_init_0 : decode cX10_init 0 = .ok (.aload_n 0, 1) := by decide +kernel
theorem dX10_init_1 : decode cX10_init 1 = .ok (.invokespecial 1, 3) := by decide +kernel
theorem dX10_init_4 : decode cX10_init 4 = .ok (.aload_n 0, 1) := by decide +kernel
theorem dX10_init_5 : decode cX10_init 5 = .ok (.bipush 8, 2) := by decide +kernel
theorem dX10_init_7 : decode cX10_init 7 = .ok (.newarray .int, 2) := by decide +kernel
theorem dX10_init_9 : decode cX10_init 9 = .ok (.dup, 1) := by decide +kernel
theorem dX10_init_10 : decode cX10_init 10 = .ok (.iconst 0, 1) := by decide +kernel
theorem dX10_init_11 : decode cX10_init 11 = .ok (.iconst (-1), 1) := by decide +kernel
theorem dX10_init_12 : decode cX10_init 12 = .ok (.iastore, 1) := by decide +kernel
theorem dX10_init_13 : decode cX10_init 13 = .ok (.dup, 1) := by decide +kernel
theorem dX10_init_14 : decode cX10_init 14 = .ok (.iconst 1, 1) := by decide +kernel
theorem dX10_init_15 : decode cX10_init 15 = .ok (.iconst (-1), 1) := by decide +kernel
theorem dX10_init_16 : decode cX10_init 16 = .ok (.iastore, 1) := by decide +kernel
theorem dX10_init_17 : decode cX10_init 17 = .ok (.dup, 1) := by decide +kernel
theorem dX10_init_18 : decode cX10_init 18 = .ok (.iconst 2, 1) := by decide +kernel
theorem dX10_init_19 : decode cX10_init 19 = .ok (.iconst (-1), 1) := by decide +kernel
theorem dX10_init_20 : decode cX10_init 20 = .ok (.iastore, 1) := by decide +kernel
theorem dX10_init_21 : decode cX10_init 21 = .ok (.dup, 1) := by decide +kernel
theorem dX10_init_22 : decode cX10_init 22 = .ok (.iconst 3, 1) := by decide +kernel
theorem dX10_init_23 : decode cX10_init 23 = .ok (.iconst (-1), 1) := by decide +kernel
theorem dX10_init_24 : decode cX10_init 24 = .ok (.iastore, 1) := by decide +kernel
theorem dX10_init_25 : decode cX10_init 25 = .ok (.dup, 1) := by decide +kernel
theorem dX10_init_26 : decode cX10_init 26 = .ok (.iconst 4, 1) := by decide +kernel
theorem dX10_init_27 : decode cX10_init 27 = .ok (.iconst (-1), 1) := by decide +kernel
theorem dX10_init_28 : decode cX10_init 28 = .ok (.iastore, 1) := by decide +kernel
theorem dX10_init_29 : decode cX10_init 29 = .ok (.dup, 1) := by decide +kernel
theorem dX10_init_30 : decode cX10_init 30 = .ok (.iconst 5, 1) := by decide +kernel
theorem dX10_init_31 : decode cX10_init 31 = .ok (.iconst (-1), 1) := by decide +kernel
theorem dX10_init_32 : decode cX10_init 32 = .ok (.iastore, 1) := by decide +kernel
theorem dX10_init_33 : decode cX10_init 33 = .ok (.dup, 1) := by decide +kernel
theorem dX10_init_34 : decode cX10_init 34 = .ok (.bipush 6, 2) := by decide +kernel
theorem dX10_init_36 : decode cX10_init 36 = .ok (.iconst (-1), 1) := by decide +kernel
theorem dX10_init_37 : decode cX10_init 37 = .ok (.iastore, 1) := by decide +kernel
theorem dX10_init_38 : decode cX10_init 38 = .ok (.dup, 1) := by decide +kernel
theorem dX10_init_39 : decode cX10_init 39 = .ok (.bipush 7, 2) := by decide +kernel
theorem dX10_init_41 : decode cX10_init 41 = .ok (.iconst (-1), 1) := by decide +kernel
theorem dX10_init_42 : decode cX10_init 42 = .ok (.iastore, 1) := by decide +kernel
theorem dX10_init_43 : decode cX10_init 43 = .ok (.putfield 7, 3) := by decide +kernel
theorem dX10_init_46 : decode cX10_init 46 = .ok (.aload_n 0, 1) := by decide +kernel
theorem dX10_init_47 : decode cX10_init 47 = .ok (.bipush 8, 2) := by decide +kernel
theorem dX10_init_49 : decode cX10_init 49 = .ok (.newarray .int, 2) := by decide +kernel
theorem dX10_init_51 : decode cX10_init 51 = .ok (.putfield 13, 3) := by decide +kernel
theorem dX10_init_54 : decode cX10_init 54 = .ok (.aload_n 0, 1) := by decide +kernel
theorem dX10_init_55 : decode cX10_init 55 = .ok (.sipush 480, 3) := by decide +kernel
theorem dX10_init_58 : decode cX10_init 58 = .ok (.newarray .int, 2) := by decide +kernel
theorem dX10_init_60 : decode cX10_init 60 = .ok (.putfield 16, 3) := by decide +kernel
theorem dX10_init_63 : decode cX10_init 63 = .ok (.aload_n 0, 1) := by decide +kernel
theorem dX10_init_64 : decode cX10_init 64 = .ok (.iconst 5, 1) := by decide +kernel
theorem dX10_init_65 : decode cX10_init 65 = .ok (.newarray .int, 2) := by decide +kernel
theorem dX10_init_67 : decode cX10_init 67 = .ok (.putfield 19, 3) := by decide +kernel
theorem dX10_init_70 : decode cX10_init 70 = .ok (.aload_n 0, 1) := by decide +kernel
theorem dX10_init_71 : decode cX10_init 71 = .ok (.sipush 200, 3) := by decide +kernel
theorem dX10_init_74 : decode cX10_init 74 = .ok (.newarray .int, 2) := by decide +kernel
theorem dX10_init_76 : decode cX10_init 76 = .ok (.putfield 22, 3) := by decide +kernel
theorem dX10_init_79 : decode cX10_init 79 = .ok (.aload_n 0, 1) := by decide +kernel
theorem dX10_init_80 : decode cX10_init 80 = .ok (.sipush 200, 3) := by decide +kernel
theorem dX10_init_83 : decode cX10_init 83 = .ok (.newarray .int, 2) := by decide +kernel
theorem dX10_init_85 : decode cX10_init 85 = .ok (.putfield 25, 3) := by decide +kernel
theorem dX10_init_88 : decode cX10_init 88 = .ok (.aload_n 0, 1) := by decide +kernel
theorem dX10_init_89 : decode cX10_init 89 = .ok (.sipush 200, 3) := by decide +kernel
theorem dX10_init_92 : decode cX10_init 92 = .ok (.newarray .int, 2) := by decide +kernel
theorem dX10_init_94 : decode cX10_init 94 = .ok (.putfield 28, 3) := by decide +kernel
theorem dX10_init_97 : decode cX10_init 97 = .ok (.aload_n 0, 1) := by decide +kernel
theorem dX10_init_98 : decode cX10_init 98 = .ok (.bipush 49, 2) := by decide +kernel
theorem dX10_init_100 : decode cX10_init 100 = .ok (.newarray .int, 2) := by decide +kernel
theorem dX10_init_102 : decode cX10_init 102 = .ok (.putfield 31, 3) := by decide +kernel
theorem dX10_init_105 : decode cX10_init 105 = .ok (.aload_n 0, 1) := by decide +kernel
theorem dX10_init_106 : decode cX10_init 106 = .ok (.bipush 49, 2) := by decide +kernel
theorem dX10_init_108 : decode cX10_init 108 = .ok (.newarray .int, 2) := by decide +kernel
theorem dX10_init_110 : decode cX10_init 110 = .ok (.putfield 34, 3) := by decide +kernel
theorem dX10_init_113 : decode cX10_init 113 = .ok (.aload_n 0, 1) := by decide +kernel
theorem dX10_init_114 : decode cX10_init 114 = .ok (.iconst 4, 1) := by decide +kernel
theorem dX10_init_115 : decode cX10_init 115 = .ok (.newarray .boolean, 2) := by decide +kernel
theorem dX10_init_117 : decode cX10_init 117 = .ok (.putfield 37, 3) := by decide +kernel
theorem dX10_init_120 : decode cX10_init 120 = .ok (.aload_n 0, 1) := by decide +kernel
theorem dX10_init_121 : decode cX10_init 121 = .ok (.sipush 400, 3) := by decide +kernel
theorem dX10_init_124 : decode cX10_init 124 = .ok (.newarray .int, 2) := by decide +kernel
theorem dX10_init_126 : decode cX10_init 126 = .ok (.putfield 41, 3) := by decide +kernel
theorem dX10_init_129 : decode cX10_init 129 = .ok (.aload_n 0, 1) := by decide +kernel
theorem dX10_init_130 : decode cX10_init 130 = .ok (.bipush 10, 2) := by decide +kernel
theorem dX10_init_132 : decode cX10_init 132 = .ok (.newarray .int, 2) := by decide +kernel
theorem dX10_init_134 : decode cX10_init 134 = .ok (.putfield 44, 3) := by decide +kernel
theorem dX10_init_137 : decode cX10_init 137 = .ok (.aload_n 0, 1) := by decide +kernel
theorem dX10_init_138 : decode cX10_init 138 = .ok (.iconst 2, 1) := by decide +kernel
theorem dX10_init_139 : decode cX10_init 139 = .ok (.putfield 47, 3) := by decide +kernel
theorem dX10_init_142 : decode cX10_init 142 = .ok (.aload_n 0, 1) := by decide +kernel
theorem dX10_init_143 : decode cX10_init 143 = .ok (.iconst 1, 1) := by decide +kernel
theorem dX10_init_144 : decode cX10_init 144 = .ok (.putfield 51, 3) := by decide +kernel
theorem dX10_init_147 : decode cX10_init 147 = .ok (.aload_n 0, 1) := by decide +kernel
theorem dX10_init_148 : decode cX10_init 148 = .ok (.iconst 5, 1) := by decide +kernel
theorem dX10_init_149 : decode cX10_init 149 = .ok (.putfield 54, 3) := by decide +kernel
theorem dX10_init_152 : decode cX10_init 152 = .ok (.aload_n 0, 1) := by decide +kernel
theorem dX10_init_153 : decode cX10_init 153 = .ok (.bipush 40, 2) := by decide +kernel
theorem dX10_init_155 : decode cX10_init 155 = .ok (.newarray .int, 2) := by decide +kernel
theorem dX10_init_157 : decode cX10_init 157 = .ok (.putfield 57, 3) := by decide +kernel
theorem dX10_init_160 : decode cX10_init 160 = .ok (.aload_n 0, 1) := by decide +kernel
theorem dX10_init_161 : decode cX10_init 161 = .ok (.bipush 6, 2) := by decide +kernel
theorem dX10_init_163 : decode cX10_init 163 = .ok (.newarray .int, 2) := by decide +kernel
theorem dX10_init_165 : decode cX10_init 165 = .ok (.putfield 60, 3) := by decide +kernel
theorem dX10_init_168 : decode cX10_init 168 = .ok (.aload_n 0, 1) := by decide +kernel
theorem dX10_init_169 : decode cX10_init 169 = .ok (.bipush 6, 2) := by decide +kernel
theorem dX10_init_171 : decode cX10_init 171 = .ok (.newarray .int, 2) := by decide +kernel
theorem dX10_init_173 : decode cX10_init 173 = .ok (.putfield 63, 3) := by decide +kernel
theorem dX10_init_176 : decode cX10_init 176 = .ok (.aload_n 0, 1) := by decide +kernel
theorem dX10_init_177 : decode cX10_init 177 = .ok (.bipush 6, 2) := by decide +kernel
theorem dX10_init_179 : decode cX10_init 179 = .ok (.newarray .int, 2) := by decide +kernel
theorem dX10_init_181 : decode cX10_init 181 = .ok (.putfield 66, 3) := by decide +kernel
theorem dX10_init_184 : decode cX10_init 184 = .ok (.aload_n 0, 1) := by decide +kernel
theorem dX10_init_185 : decode cX10_init 185 = .ok (.bipush 6, 2) := by decide +kernel
theorem dX10_init_187 : decode cX10_init 187 = .ok (.newarray .int, 2) := by decide +kernel
theorem dX10_init_189 : decode cX10_init 189 = .ok (.putfield 69, 3) := by decide +kernel
theorem dX10_init_192 : decode cX10_init 192 = .ok (.aload_n 0, 1) := by decide +kernel
theorem dX10_init_193 : decode cX10_init 193 = .ok (.bipush 100, 2) := by decide +kernel
theorem dX10_init_195 : decode cX10_init 195 = .ok (.putfield 72, 3) := by decide +kernel
theorem dX10_init_198 : decode cX10_init 198 = .ok (.aload_n 0, 1) := by decide +kernel
theorem dX10_init_199 : decode cX10_init 199 = .ok (.bipush 16, 2) := by decide +kernel
theorem dX10_init_201 : decode cX10_init 201 = .ok (.newarray .int, 2) := by decide +kernel
theorem dX10_init_203 : decode cX10_init 203 = .ok (.putfield 75, 3) := by decide +kernel
theorem dX10_init_206 : decode cX10_init 206 = .ok (.return_, 1) := by decide +kernel
theorem dX10_in_0 : decode cX10_in 0 = .ok (.lload_n 0, 1) := by decide +kernel
theorem dX10_in_1 : decode cX10_in 1 = .ok (.lload_n 2, 1) := by decide +kernel
theorem dX10_in_2 : decode cX10_in 2 = .ok (.lcmp, 1) := by decide +kernel
theorem dX10_in_3 : decode cX10_in 3 = .ok (.ifCond .lt 14, 3) := by decide +kernel
theorem dX10_in_6 : decode cX10_in 6 = .ok (.lload_n 0, 1) := by decide +kernel
theorem dX10_in_7 : decode cX10_in 7 = .ok (.lload 4, 2) := by decide +kernel
theorem dX10_in_9 : decode cX10_in 9 = .ok (.lcmp, 1) := by decide +kernel
theorem dX10_in_10 : decode cX10_in 10 = .ok (.ifCond .gt 7, 3) := by decide +kernel
theorem dX10_in_13 : decode cX10_in 13 = .ok (.iconst 1, 1) := by decide +kernel
theorem dX10_in_14 : decode cX10_in 14 = .ok (.goto 4, 3) := by decide +kernel
theorem dX10_in_17 : decode cX10_in 17 = .ok (.iconst 0, 1) := by decide +kernel
theorem dX10_in_18 : decode cX10_in 18 = .ok (.ireturn, 1) := by decide +kernel
theorem dX10_finding_0 : decode cX10_finding 0 = .ok (.aload_n 0, 1) := by decide +kernel
theorem dX10_finding_1 : decode cX10_finding 1 = .ok (.iload_n 1, 1) := by decide +kernel
theorem dX10_finding_2 : decode cX10_finding 2 = .ok (.putfield 81, 3) := by decide +kernel
theorem dX10_finding_5 : decode cX10_finding 5 = .ok (.ldc 84, 2) := by decide +kernel
theorem dX10_finding_7 : decode cX10_finding 7 = .ok (.iload_n 1, 1) := by decide +kernel
theorem dX10_finding_8 : decode cX10_finding 8 = .ok (.isub, 1) := by decide +kernel
theorem dX10_finding_9 : decode cX10_finding 9 = .ok (.ireturn, 1) := by decide +kernel
theorem dX10_isSheet_0 : decode cX10_isSheet 0 = .ok (.iload_n 0, 1) := by decide +kernel
theorem dX10_isSheet_1 : decode cX10_isSheet 1 = .ok (.i2l, 1) := by decide +kernel
theorem dX10_isSheet_2 : decode cX10_isSheet 2 = .ok (.lconst 0, 1) := by decide +kernel
theorem dX10_isSheet_3 : decode cX10_isSheet 3 = .ok (.ldc2_w 85, 3) := by decide +kernel
theorem dX10_isSheet_6 : decode cX10_isSheet 6 = .ok (.invokestatic 87, 3) := by decide +kernel
theorem dX10_isSheet_9 : decode cX10_isSheet 9 = .ok (.ireturn, 1) := by decide +kernel
theorem dX10_sheet_0 : decode cX10_sheet 0 = .ok (.aload_n 0, 1) := by decide +kernel
theorem dX10_sheet_1 : decode cX10_sheet 1 = .ok (.iconst 0, 1) := by decide +kernel
theorem dX10_sheet_2 : decode cX10_sheet 2 = .ok (.putfield 78, 3) := by decide +kernel
theorem dX10_sheet_5 : decode cX10_sheet 5 = .ok (.iload_n 1, 1) := by decide +kernel
theorem dX10_sheet_6 : decode cX10_sheet 6 = .ok (.invokestatic 91, 3) := by decide +kernel
theorem dX10_sheet_9 : decode cX10_sheet 9 = .ok (.ifCond .eq 21, 3) := by decide +kernel
theorem dX10_sheet_12 : decode cX10_sheet 12 = .ok (.iload_n 2, 1) := by decide +kernel
theorem dX10_sheet_13 : decode cX10_sheet 13 = .ok (.i2l, 1) := by decide +kernel
theorem dX10_sheet_14 : decode cX10_sheet 14 = .ok (.lconst 0, 1) := by decide +kernel
theorem dX10_sheet_15 : decode cX10_sheet 15 = .ok (.ldc2_w 95, 3) := by decide +kernel
theorem dX10_sheet_18 : decode cX10_sheet 18 = .ok (.invokestatic 87, 3) := by decide +kernel
theorem dX10_sheet_21 : decode cX10_sheet 21 = .ok (.ifCond .eq 9, 3) := by decide +kernel
theorem dX10_sheet_24 : decode cX10_sheet 24 = .ok (.iload_n 3, 1) := by decide +kernel
theorem dX10_sheet_25 : decode cX10_sheet 25 = .ok (.bipush 60, 2) := by decide +kernel
theorem dX10_sheet_27 : decode cX10_sheet 27 = .ok (.if_icmp .le 6, 3) := by decide +kernel
theorem dX10_sheet_30 : decode cX10_sheet 30 = .ok (.ldc 97, 2) := by decide +kernel
theorem dX10_sheet_32 : decode cX10_sheet 32 = .ok (.ireturn, 1) := by decide +kernel
theorem dX10_sheet_33 : decode cX10_sheet 33 = .ok (.aload_n 0, 1) := by decide +kernel
theorem dX10_sheet_34 : decode cX10_sheet 34 = .ok (.iconst 0, 1) := by decide +kernel
theorem dX10_sheet_35 : decode cX10_sheet 35 = .ok (.putfield 81, 3) := by decide +kernel
theorem dX10_sheet_38 : decode cX10_sheet 38 = .ok (.iload_n 3, 1) := by decide +kernel
theorem dX10_sheet_39 : decode cX10_sheet 39 = .ok (.ifCond .ge 9, 3) := by decide +kernel
theorem dX10_sheet_42 : decode cX10_sheet 42 = .ok (.aload_n 0, 1) := by decide +kernel
theorem dX10_sheet_43 : decode cX10_sheet 43 = .ok (.iconst 4, 1) := by decide +kernel
theorem dX10_sheet_44 : decode cX10_sheet 44 = .ok (.invokevirtual 98, 3) := by decide +kernel
theorem dX10_sheet_47 : decode cX10_sheet 47 = .ok (.ireturn, 1) := by decide +kernel
theorem dX10_sheet_48 : decode cX10_sheet 48 = .ok (.aload_n 0, 1) := by decide +kernel
theorem dX10_sheet_49 : decode cX10_sheet 49 = .ok (.getfield 7, 3) := by decide +kernel
theorem dX10_sheet_52 : decode cX10_sheet 52 = .ok (.iload_n 1, 1) := by decide +kernel
theorem dX10_sheet_53 : decode cX10_sheet 53 = .ok (.iload_n 2, 1) := by decide +kernel
theorem dX10_sheet_54 : decode cX10_sheet 54 = .ok (.iastore, 1) := by decide +kernel
theorem dX10_sheet_55 : decode cX10_sheet 55 = .ok (.aload_n 0, 1) := by decide +kernel
theorem dX10_sheet_56 : decode cX10_sheet 56 = .ok (.getfield 13, 3) := by decide +kernel
theorem dX10_sheet_59 : decode cX10_sheet 59 = .ok (.iload_n 1, 1) := by decide +kernel
theorem dX10_sheet_60 : decode cX10_sheet 60 = .ok (.iload_n 3, 1) := by decide +kernel
theorem dX10_sheet_61 : decode cX10_sheet 61 = .ok (.iastore, 1) := by decide +kernel
theorem dX10_sheet_62 : decode cX10_sheet 62 = .ok (.iconst 0, 1) := by decide +kernel
theorem dX10_sheet_63 : decode cX10_sheet 63 = .ok (.istore 4, 2) := by decide +kernel
theorem dX10_sheet_65 : decode cX10_sheet 65 = .ok (.iload 4, 2) := by decide +kernel
theorem dX10_sheet_67 : decode cX10_sheet 67 = .ok (.bipush 60, 2) := by decide +kernel
theorem dX10_sheet_69 : decode cX10_sheet 69 = .ok (.if_icmp .ge 22, 3) := by decide +kernel
theorem dX10_sheet_72 : decode cX10_sheet 72 = .ok (.aload_n 0, 1) := by decide +kernel
theorem dX10_sheet_73 : decode cX10_sheet 73 = .ok (.getfield 16, 3) := by decide +kernel
theorem dX10_sheet_76 : decode cX10_sheet 76 = .ok (.bipush 60, 2) := by decide +kernel
theorem dX10_sheet_78 : decode cX10_sheet 78 = .ok (.iload_n 1, 1) := by decide +kernel
theorem dX10_sheet_79 : decode cX10_sheet 79 = .ok (.imul, 1) := by decide +kernel
theorem dX10_sheet_80 : decode cX10_sheet 80 = .ok (.iload 4, 2) := by decide +kernel
theorem dX10_sheet_82 : decode cX10_sheet 82 = .ok (.iadd, 1) := by decide +kernel
theorem dX10_sheet_83 : decode cX10_sheet 83 = .ok (.iconst 0, 1) := by decide +kernel
theorem dX10_sheet_84 : decode cX10_sheet 84 = .ok (.iastore, 1) := by decide +kernel
theorem dX10_sheet_85 : decode cX10_sheet 85 = .ok (.iinc 4 1, 3) := by decide +kernel
theorem dX10_sheet_88 : decode cX10_sheet 88 = .ok (.goto (-23), 3) := by decide +kernel
theorem dX10_sheet_91 : decode cX10_sheet 91 = .ok (.iload_n 3, 1) := by decide +kernel
theorem dX10_sheet_92 : decode cX10_sheet 92 = .ok (.ireturn, 1) := by decide +kernel
theorem dX10_set_0 : decode cX10_set 0 = .ok (.aload_n 0, 1) := by decide +kernel
theorem dX10_set_1 : decode cX10_set 1 = .ok (.iconst 0, 1) := by decide +kernel
theorem dX10_set_2 : decode cX10_set 2 = .ok (.putfield 78, 3) := by decide +kernel
theorem dX10_set_5 : decode cX10_set 5 = .ok (.iload_n 1, 1) := by decide +kernel
theorem dX10_set_6 : decode cX10_set 6 = .ok (.invokestatic 91, 3) := by decide +kernel
theorem dX10_set_9 : decode cX10_set 9 = .ok (.ifCond .ne 6, 3) := by decide +kernel
theorem dX10_set_12 : decode cX10_set 12 = .ok (.ldc 97, 2) := by decide +kernel
theorem dX10_set_14 : decode cX10_set 14 = .ok (.ireturn, 1) := by decide +kernel
theorem dX10_set_15 : decode cX10_set 15 = .ok (.aload_n 0, 1) := by decide +kernel
theorem dX10_set_16 : decode cX10_set 16 = .ok (.iconst 0, 1) := by decide +kernel
theorem dX10_set_17 : decode cX10_set 17 = .ok (.putfield 81, 3) := by decide +kernel
theorem dX10_set_20 : decode cX10_set 20 = .ok (.aload_n 0, 1) := by decide +kernel
theorem dX10_set_21 : decode cX10_set 21 = .ok (.getfield 7, 3) := by decide +kernel
theorem dX10_set_24 : decode cX10_set 24 = .ok (.iload_n 1, 1) := by decide +kernel
theorem dX10_set_25 : decode cX10_set 25 = .ok (.iaload, 1) := by decide +kernel
theorem dX10_set_26 : decode cX10_set 26 = .ok (.ifCond .ge 9, 3) := by decide +kernel
theorem dX10_set_29 : decode cX10_set 29 = .ok (.aload_n 0, 1) := by decide +kernel
theorem dX10_set_30 : decode cX10_set 30 = .ok (.iconst 1, 1) := by decide +kernel
theorem dX10_set_31 : decode cX10_set 31 = .ok (.invokevirtual 98, 3) := by decide +kernel
theorem dX10_set_34 : decode cX10_set 34 = .ok (.ireturn, 1) := by decide +kernel
theorem dX10_set_35 : decode cX10_set 35 = .ok (.iload_n 2, 1) := by decide +kernel
theorem dX10_set_36 : decode cX10_set 36 = .ok (.i2l, 1) := by decide +kernel
theorem dX10_set_37 : decode cX10_set 37 = .ok (.lconst 0, 1) := by decide +kernel
theorem dX10_set_38 : decode cX10_set 38 = .ok (.aload_n 0, 1) := by decide +kernel
theorem dX10_set_39 : decode cX10_set 39 = .ok (.getfield 13, 3) := by decide +kernel
theorem dX10_set_42 : decode cX10_set 42 = .ok (.iload_n 1, 1) := by decide +kernel
theorem dX10_set_43 : decode cX10_set 43 = .ok (.iaload, 1) := by decide +kernel
theorem dX10_set_44 : decode cX10_set 44 = .ok (.iconst 1, 1) := by decide +kernel
theorem dX10_set_45 : decode cX10_set 45 = .ok (.isub, 1) := by decide +kernel
theorem dX10_set_46 : decode cX10_set 46 = .ok (.i2l, 1) := by decide +kernel
theorem dX10_set_47 : decode cX10_set 47 = .ok (.invokestatic 87, 3) := by decide +kernel
theorem dX10_set_50 : decode cX10_set 50 = .ok (.ifCond .ne 9, 3) := by decide +kernel
theorem dX10_set_53 : decode cX10_set 53 = .ok (.aload_n 0, 1) := by decide +kernel
theorem dX10_set_54 : decode cX10_set 54 = .ok (.iconst 2, 1) := by decide +kernel
theorem dX10_set_55 : decode cX10_set 55 = .ok (.invokevirtual 98, 3) := by decide +kernel
theorem dX10_set_58 : decode cX10_set 58 = .ok (.ireturn, 1) := by decide +kernel
theorem dX10_set_59 : decode cX10_set 59 = .ok (.aload_n 0, 1) := by decide +kernel
theorem dX10_set_60 : decode cX10_set 60 = .ok (.getfield 16, 3) := by decide +kernel
theorem dX10_set_63 : decode cX10_set 63 = .ok (.bipush 60, 2) := by decide +kernel
theorem dX10_set_65 : decode cX10_set 65 = .ok (.iload_n 1, 1) := by decide +kernel
theorem dX10_set_66 : decode cX10_set 66 = .ok (.imul, 1) := by decide +kernel
theorem dX10_set_67 : decode cX10_set 67 = .ok (.iload_n 2, 1) := by decide +kernel
theorem dX10_set_68 : decode cX10_set 68 = .ok (.iadd, 1) := by decide +kernel
theorem dX10_set_69 : decode cX10_set 69 = .ok (.aload_n 0, 1) := by decide +kernel
theorem dX10_set_70 : decode cX10_set 70 = .ok (.getfield 7, 3) := by decide +kernel
theorem dX10_set_73 : decode cX10_set 73 = .ok (.iload_n 1, 1) := by decide +kernel
theorem dX10_set_74 : decode cX10_set 74 = .ok (.iaload, 1) := by decide +kernel
theorem dX10_set_75 : decode cX10_set 75 = .ok (.ifCond .ne 8, 3) := by decide +kernel
theorem dX10_set_78 : decode cX10_set 78 = .ok (.iload_n 3, 1) := by decide +kernel
theorem dX10_set_79 : decode cX10_set 79 = .ok (.i2b, 1) := by decide +kernel
theorem dX10_set_80 : decode cX10_set 80 = .ok (.goto 19, 3) := by decide +kernel
theorem dX10_set_83 : decode cX10_set 83 = .ok (.aload_n 0, 1) := by decide +kernel
theorem dX10_set_84 : decode cX10_set 84 = .ok (.getfield 7, 3) := by decide +kernel
theorem dX10_set_87 : decode cX10_set 87 = .ok (.iload_n 1, 1) := by decide +kernel
theorem dX10_set_88 : decode cX10_set 88 = .ok (.iaload, 1) := by decide +kernel
theorem dX10_set_89 : decode cX10_set 89 = .ok (.iconst 1, 1) := by decide +kernel
theorem dX10_set_90 : decode cX10_set 90 = .ok (.if_icmp .ne 8, 3) := by decide +kernel
theorem dX10_set_93 : decode cX10_set 93 = .ok (.iload_n 3, 1) := by decide +kernel
theorem dX10_set_94 : decode cX10_set 94 = .ok (.i2s, 1) := by decide +kernel
theorem dX10_set_95 : decode cX10_set 95 = .ok (.goto 4, 3) := by decide +kernel
theorem dX10_set_98 : decode cX10_set 98 = .ok (.iload_n 3, 1) := by decide +kernel
theorem dX10_set_99 : decode cX10_set 99 = .ok (.iastore, 1) := by decide +kernel
theorem dX10_set_100 : decode cX10_set 100 = .ok (.aload_n 0, 1) := by decide +kernel
theorem dX10_set_101 : decode cX10_set 101 = .ok (.getfield 16, 3) := by decide +kernel
theorem dX10_set_104 : decode cX10_set 104 = .ok (.bipush 60, 2) := by decide +kernel
theorem dX10_set_106 : decode cX10_set 106 = .ok (.iload_n 1, 1) := by decide +kernel
theorem dX10_set_107 : decode cX10_set 107 = .ok (.imul, 1) := by decide +kernel
theorem dX10_set_108 : decode cX10_set 108 = .ok (.iload_n 2, 1) := by decide +kernel
theorem dX10_set_109 : decode cX10_set 109 = .ok (.iadd, 1) := by decide +kernel
theorem dX10_set_110 : decode cX10_set 110 = .ok (.iaload, 1) := by decide +kernel
theorem dX10_set_111 : decode cX10_set 111 = .ok (.ireturn, 1) := by decide +kernel
