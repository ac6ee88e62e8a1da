theorem dX9_init_0 : decode cX9_init 0 = .ok (.aload_n 0, 1) := by decide +kernel
theorem dX9_init_1 : decode cX9_init 1 = .ok (.invokespecial 1, 3) := by decide +kernel
theorem dX9_init_4 : decode cX9_init 4 = .ok (.aload_n 0, 1) := by decide +kernel
theorem dX9_init_5 : decode cX9_init 5 = .ok (.bipush 8, 2) := by decide +kernel
theorem dX9_init_7 : decode cX9_init 7 = .ok (.anewarray 9, 3) := by decide +kernel
theorem dX9_init_10 : decode cX9_init 10 = .ok (.putfield 11, 3) := by decide +kernel
theorem dX9_init_13 : decode cX9_init 13 = .ok (.aload_n 0, 1) := by decide +kernel
theorem dX9_init_14 : decode cX9_init 14 = .ok (.new 15, 3) := by decide +kernel
theorem dX9_init_17 : decode cX9_init 17 = .ok (.dup, 1) := by decide +kernel
theorem dX9_init_18 : decode cX9_init 18 = .ok (.invokespecial 17, 3) := by decide +kernel
theorem dX9_init_21 : decode cX9_init 21 = .ok (.putfield 18, 3) := by decide +kernel
theorem dX9_init_24 : decode cX9_init 24 = .ok (.aload_n 0, 1) := by decide +kernel
theorem dX9_init_25 : decode cX9_init 25 = .ok (.new 15, 3) := by decide +kernel
theorem dX9_init_28 : decode cX9_init 28 = .ok (.dup, 1) := by decide +kernel
theorem dX9_init_29 : decode cX9_init 29 = .ok (.invokespecial 17, 3) := by decide +kernel
theorem dX9_init_32 : decode cX9_init 32 = .ok (.putfield 22, 3) := by decide +kernel
theorem dX9_init_35 : decode cX9_init 35 = .ok (.aload_n 0, 1) := by decide +kernel
theorem dX9_init_36 : decode cX9_init 36 = .ok (.new 15, 3) := by decide +kernel
theorem dX9_init_39 : decode cX9_init 39 = .ok (.dup, 1) := by decide +kernel
theorem dX9_init_40 : decode cX9_init 40 = .ok (.invokespecial 17, 3) := by decide +kernel
theorem dX9_init_43 : decode cX9_init 43 = .ok (.putfield 25, 3) := by decide +kernel
theorem dX9_init_46 : decode cX9_init 46 = .ok (.aload_n 0, 1) := by decide +kernel
theorem dX9_init_47 : decode cX9_init 47 = .ok (.new 28, 3) := by decide +kernel
theorem dX9_init_50 : decode cX9_init 50 = .ok (.dup, 1) := by decide +kernel
theorem dX9_init_51 : decode cX9_init 51 = .ok (.invokespecial 30, 3) := by decide +kernel
theorem dX9_init_54 : decode cX9_init 54 = .ok (.putfield 31, 3) := by decide +kernel
theorem dX9_init_57 : decode cX9_init 57 = .ok (.aload_n 0, 1) := by decide +kernel
theorem dX9_init_58 : decode cX9_init 58 = .ok (.new 35, 3) := by decide +kernel
theorem dX9_init_61 : decode cX9_init 61 = .ok (.dup, 1) := by decide +kernel
theorem dX9_init_62 : decode cX9_init 62 = .ok (.invokespecial 37, 3) := by decide +kernel
theorem dX9_init_65 : decode cX9_init 65 = .ok (.putfield 38, 3) := by decide +kernel
theorem dX9_init_68 : decode cX9_init 68 = .ok (.aload_n 0, 1) := by decide +kernel
theorem dX9_init_69 : decode cX9_init 69 = .ok (.new 42, 3) := by decide +kernel
theorem dX9_init_72 : decode cX9_init 72 = .ok (.dup, 1) := by decide +kernel
theorem dX9_init_73 : decode cX9_init 73 = .ok (.invokespecial 44, 3) := by decide +kernel
theorem dX9_init_76 : decode cX9_init 76 = .ok (.putfield 45, 3) := by decide +kernel
theorem dX9_init_79 : decode cX9_init 79 = .ok (.aload_n 0, 1) := by decide +kernel
theorem dX9_init_80 : decode cX9_init 80 = .ok (.new 49, 3) := by decide +kernel
theorem dX9_init_83 : decode cX9_init 83 = .ok (.dup, 1) := by decide +kernel
theorem dX9_init_84 : decode cX9_init 84 = .ok (.invokespecial 51, 3) := by decide +kernel
theorem dX9_init_87 : decode cX9_init 87 = .ok (.putfield 52, 3) := by decide +kernel
theorem dX9_init_90 : decode cX9_init 90 = .ok (.aload_n 0, 1) := by decide +kernel
theorem dX9_init_91 : decode cX9_init 91 = .ok (.new 56, 3) := by decide +kernel
theorem dX9_init_94 : decode cX9_init 94 = .ok (.dup, 1) := by decide +kernel
theorem dX9_init_95 : decode cX9_init 95 = .ok (.invokespecial 58, 3) := by decide +kernel
theorem dX9_init_98 : decode cX9_init 98 = .ok (.putfield 59, 3) := by decide +kernel
theorem dX9_init_101 : decode cX9_init 101 = .ok (.aload_n 0, 1) := by decide +kernel
theorem dX9_init_102 : decode cX9_init 102 = .ok (.new 63, 3) := by decide +kernel
theorem dX9_init_105 : decode cX9_init 105 = .ok (.dup, 1) := by decide +kernel
theorem dX9_init_106 : decode cX9_init 106 = .ok (.invokespecial 65, 3) := by decide +kernel
theorem dX9_init_109 : decode cX9_init 109 = .ok (.putfield 66, 3) := by decide +kernel
theorem dX9_init_112 : decode cX9_init 112 = .ok (.aload_n 0, 1) := by decide +kernel
theorem dX9_init_113 : decode cX9_init 113 = .ok (.bipush 11, 2) := by decide +kernel
theorem dX9_init_115 : decode cX9_init 115 = .ok (.newarray .int, 2) := by decide +kernel
theorem dX9_init_117 : decode cX9_init 117 = .ok (.putfield 70, 3) := by decide +kernel
theorem dX9_init_120 : decode cX9_init 120 = .ok (.aload_n 0, 1) := by decide +kernel
theorem dX9_init_121 : decode cX9_init 121 = .ok (.bipush 11, 2) := by decide +kernel
theorem dX9_init_123 : decode cX9_init 123 = .ok (.newarray .int, 2) := by decide +kernel
theorem dX9_init_125 : decode cX9_init 125 = .ok (.putfield 74, 3) := by decide +kernel
theorem dX9_init_128 : decode cX9_init 128 = .ok (.aload_n 0, 1) := by decide +kernel
theorem dX9_init_129 : decode cX9_init 129 = .ok (.iconst 0, 1) := by decide +kernel
theorem dX9_init_130 : decode cX9_init 130 = .ok (.putfield 77, 3) := by decide +kernel
theorem dX9_init_133 : decode cX9_init 133 = .ok (.aload_n 0, 1) := by decide +kernel
theorem dX9_init_134 : decode cX9_init 134 = .ok (.lconst 0, 1) := by decide +kernel
theorem dX9_init_135 : decode cX9_init 135 = .ok (.putfield 81, 3) := by decide +kernel
theorem dX9_init_138 : decode cX9_init 138 = .ok (.aload_n 0, 1) := by decide +kernel
theorem dX9_init_139 : decode cX9_init 139 = .ok (.iconst 0, 1) := by decide +kernel
theorem dX9_init_140 : decode cX9_init 140 = .ok (.putfield 85, 3) := by decide +kernel
theorem dX9_init_143 : decode cX9_init 143 = .ok (.aload_n 0, 1) := by decide +kernel
theorem dX9_init_144 : decode cX9_init 144 = .ok (.iconst 0, 1) := by decide +kernel
theorem dX9_init_145 : decode cX9_init 145 = .ok (.putfield 89, 3) := by decide +kernel
theorem dX9_init_148 : decode cX9_init 148 = .ok (.aload_n 0, 1) := by decide +kernel
theorem dX9_init_149 : decode cX9_init 149 = .ok (.bipush 100, 2) := by decide +kernel
theorem dX9_init_151 : decode cX9_init 151 = .ok (.putfield 92, 3) := by decide +kernel
theorem dX9_init_154 : decode cX9_init 154 = .ok (.iconst 0, 1) := by decide +kernel
theorem dX9_init_155 : decode cX9_init 155 = .ok (.istore_n 1, 1) := by decide +kernel
theorem dX9_init_156 : decode cX9_init 156 = .ok (.iload_n 1, 1) := by decide +kernel
theorem dX9_init_157 : decode cX9_init 157 = .ok (.bipush 8, 2) := by decide +kernel
theorem dX9_init_159 : decode cX9_init 159 = .ok (.if_icmp .ge 22, 3) := by decide +kernel
theorem dX9_init_162 : decode cX9_init 162 = .ok (.aload_n 0, 1) := by decide +kernel
theorem dX9_init_163 : decode cX9_init 163 = .ok (.getfield 11, 3) := by decide +kernel
theorem dX9_init_166 : decode cX9_init 166 = .ok (.iload_n 1, 1) := by decide +kernel
theorem dX9_init_167 : decode cX9_init 167 = .ok (.new 9, 3) := by decide +kernel
theorem dX9_init_170 : decode cX9_init 170 = .ok (.dup, 1) := by decide +kernel
theorem dX9_init_171 : decode cX9_init 171 = .ok (.invokespecial 95, 3) := by decide +kernel
theorem dX9_init_174 : decode cX9_init 174 = .ok (.aastore, 1) := by decide +kernel
theorem dX9_init_175 : decode cX9_init 175 = .ok (.iinc 1 1, 3) := by decide +kernel
theorem dX9_init_178 : decode cX9_init 178 = .ok (.goto (-22), 3) := by decide +kernel
theorem dX9_init_181 : decode cX9_init 181 = .ok (.return_, 1) := by decide +kernel
theorem dX9_sheet_0 : decode cX9_sheet 0 = .ok (.iload_n 1, 1) := by decide +kernel
theorem dX9_sheet_1 : decode cX9_sheet 1 = .ok (.bipush 8, 2) := by decide +kernel
theorem dX9_sheet_3 : decode cX9_sheet 3 = .ok (.invokestatic 96, 3) := by decide +kernel
theorem dX9_sheet_6 : decode cX9_sheet 6 = .ok (.ifCond .eq 17, 3) := by decide +kernel
theorem dX9_sheet_9 : decode cX9_sheet 9 = .ok (.iload_n 2, 1) := by decide +kernel
theorem dX9_sheet_10 : decode cX9_sheet 10 = .ok (.iconst 3, 1) := by decide +kernel
theorem dX9_sheet_11 : decode cX9_sheet 11 = .ok (.invokestatic 96, 3) := by decide +kernel
theorem dX9_sheet_14 : decode cX9_sheet 14 = .ok (.ifCond .eq 9, 3) := by decide +kernel
theorem dX9_sheet_17 : decode cX9_sheet 17 = .ok (.iload_n 3, 1) := by decide +kernel
theorem dX9_sheet_18 : decode cX9_sheet 18 = .ok (.bipush 60, 2) := by decide +kernel
theorem dX9_sheet_20 : decode cX9_sheet 20 = .ok (.if_icmp .le 6, 3) := by decide +kernel
theorem dX9_sheet_23 : decode cX9_sheet 23 = .ok (.ldc 100, 2) := by decide +kernel
theorem dX9_sheet_25 : decode cX9_sheet 25 = .ok (.ireturn, 1) := by decide +kernel
theorem dX9_sheet_26 : decode cX9_sheet 26 = .ok (.iload_n 3, 1) := by decide +kernel
theorem dX9_sheet_27 : decode cX9_sheet 27 = .ok (.ifCond .ge 9, 3) := by decide +kernel
theorem dX9_sheet_30 : decode cX9_sheet 30 = .ok (.aload_n 0, 1) := by decide +kernel
theorem dX9_sheet_31 : decode cX9_sheet 31 = .ok (.iconst 4, 1) := by decide +kernel
theorem dX9_sheet_32 : decode cX9_sheet 32 = .ok (.invokevirtual 101, 3) := by decide +kernel
theorem dX9_sheet_35 : decode cX9_sheet 35 = .ok (.ireturn, 1) := by decide +kernel
theorem dX9_sheet_36 : decode cX9_sheet 36 = .ok (.aload_n 0, 1) := by decide +kernel
theorem dX9_sheet_37 : decode cX9_sheet 37 = .ok (.getfield 11, 3) := by decide +kernel
theorem dX9_sheet_40 : decode cX9_sheet 40 = .ok (.iload_n 1, 1) := by decide +kernel
theorem dX9_sheet_41 : decode cX9_sheet 41 = .ok (.aaload, 1) := by decide +kernel
theorem dX9_sheet_42 : decode cX9_sheet 42 = .ok (.iload_n 2, 1) := by decide +kernel
theorem dX9_sheet_43 : decode cX9_sheet 43 = .ok (.iload_n 3, 1) := by decide +kernel
theorem dX9_sheet_44 : decode cX9_sheet 44 = .ok (.invokevirtual 105, 3) := by decide +kernel
theorem dX9_sheet_47 : decode cX9_sheet 47 = .ok (.aload_n 0, 1) := by decide +kernel
theorem dX9_sheet_48 : decode cX9_sheet 48 = .ok (.iload_n 3, 1) := by decide +kernel
theorem dX9_sheet_49 : decode cX9_sheet 49 = .ok (.invokevirtual 109, 3) := by decide +kernel
theorem dX9_sheet_52 : decode cX9_sheet 52 = .ok (.ireturn, 1) := by decide +kernel
theorem dX9_set_0 : decode cX9_set 0 = .ok (.iload_n 1, 1) := by decide +kernel
theorem dX9_set_1 : decode cX9_set 1 = .ok (.bipush 8, 2) := by decide +kernel
theorem dX9_set_3 : decode cX9_set 3 = .ok (.invokestatic 96, 3) := by decide +kernel
theorem dX9_set_6 : decode cX9_set 6 = .ok (.ifCond .ne 6, 3) := by decide +kernel
theorem dX9_set_9 : decode cX9_set 9 = .ok (.ldc 100, 2) := by decide +kernel
theorem dX9_set_11 : decode cX9_set 11 = .ok (.ireturn, 1) := by decide +kernel
theorem dX9_set_12 : decode cX9_set 12 = .ok (.aload_n 0, 1) := by decide +kernel
theorem dX9_set_13 : decode cX9_set 13 = .ok (.getfield 11, 3) := by decide +kernel
theorem dX9_set_16 : decode cX9_set 16 = .ok (.iload_n 1, 1) := by decide +kernel
theorem dX9_set_17 : decode cX9_set 17 = .ok (.aaload, 1) := by decide +kernel
theorem dX9_set_18 : decode cX9_set 18 = .ok (.astore 4, 2) := by decide +kernel
theorem dX9_set_20 : decode cX9_set 20 = .ok (.aload 4, 2) := by decide +kernel
theorem dX9_set_22 : decode cX9_set 22 = .ok (.getfield 112, 3) := by decide +kernel
theorem dX9_set_25 : decode cX9_set 25 = .ok (.ifCond .eq 9, 3) := by decide +kernel
theorem dX9_set_28 : decode cX9_set 28 = .ok (.aload_n 0, 1) := by decide +kernel
theorem dX9_set_29 : decode cX9_set 29 = .ok (.iconst 1, 1) := by decide +kernel
theorem dX9_set_30 : decode cX9_set 30 = .ok (.invokevirtual 101, 3) := by decide +kernel
theorem dX9_set_33 : decode cX9_set 33 = .ok (.ireturn, 1) := by decide +kernel
theorem dX9_set_34 : decode cX9_set 34 = .ok (.aload 4, 2) := by decide +kernel
theorem dX9_set_36 : decode cX9_set 36 = .ok (.iload_n 2, 1) := by decide +kernel
theorem dX9_set_37 : decode cX9_set 37 = .ok (.iconst 1, 1) := by decide +kernel
theorem dX9_set_38 : decode cX9_set 38 = .ok (.invokevirtual 115, 3) := by decide +kernel
theorem dX9_set_41 : decode cX9_set 41 = .ok (.ifCond .ne 9, 3) := by decide +kernel
theorem dX9_set_44 : decode cX9_set 44 = .ok (.aload_n 0, 1) := by decide +kernel
theorem dX9_set_45 : decode cX9_set 45 = .ok (.iconst 2, 1) := by decide +kernel
theorem dX9_set_46 : decode cX9_set 46 = .ok (.invokevirtual 101, 3) := by decide +kernel
theorem dX9_set_49 : decode cX9_set 49 = .ok (.ireturn, 1) := by decide +kernel
theorem dX9_set_50 : decode cX9_set 50 = .ok (.aload_n 0, 1) := by decide +kernel
theorem dX9_set_51 : decode cX9_set 51 = .ok (.aload 4, 2) := by decide +kernel
theorem dX9_set_53 : decode cX9_set 53 = .ok (.iload_n 2, 1) := by decide +kernel
theorem dX9_set_54 : decode cX9_set 54 = .ok (.iload_n 3, 1) := by decide +kernel
theorem dX9_set_55 : decode cX9_set 55 = .ok (.invokevirtual 118, 3) := by decide +kernel
theorem dX9_set_58 : decode cX9_set 58 = .ok (.invokevirtual 109, 3) := by decide +kernel
theorem dX9_set_61 : decode cX9_set 61 = .ok (.ireturn, 1) := by decide +kernel
theorem dX9_copy_0 : decode cX9_copy 0 = .ok (.iload_n 1, 1) := by decide +kernel
theorem dX9_copy_1 : decode cX9_copy 1 = .ok (.bipush 8, 2) := by decide +kernel
theorem dX9_copy_3 : decode cX9_copy 3 = .ok (.invokestatic 96, 3) := by decide +kernel
theorem dX9_copy_6 : decode cX9_copy 6 = .ok (.ifCond .eq 12, 3) := by decide +kernel
theorem dX9_copy_9 : decode cX9_copy 9 = .ok (.iload_n 3, 1) := by decide +kernel
theorem dX9_copy_10 : decode cX9_copy 10 = .ok (.bipush 8, 2) := by decide +kernel
theorem dX9_copy_12 : decode cX9_copy 12 = .ok (.invokestatic 96, 3) := by decide +kernel
theorem dX9_copy_15 : decode cX9_copy 15 = .ok (.ifCond .ne 6, 3) := by decide +kernel
theorem dX9_copy_18 : decode cX9_copy 18 = .ok (.ldc 100, 2) := by decide +kernel
theorem dX9_copy_20 : decode cX9_copy 20 = .ok (.ireturn, 1) := by decide +kernel
theorem dX9_copy_21 : decode cX9_copy 21 = .ok (.aload_n 0, 1) := by decide +kernel
theorem dX9_copy_22 : decode cX9_copy 22 = .ok (.getfield 11, 3) := by decide +kernel
theorem dX9_copy_25 : decode cX9_copy 25 = .ok (.iload_n 1, 1) := by decide +kernel
theorem dX9_copy_26 : decode cX9_copy 26 = .ok (.aaload, 1) := by decide +kernel
theorem dX9_copy_27 : decode cX9_copy 27 = .ok (.astore 6, 2) := by decide +kernel
theorem dX9_copy_29 : decode cX9_copy 29 = .ok (.aload_n 0, 1) := by decide +kernel
theorem dX9_copy_30 : decode cX9_copy 30 = .ok (.getfield 11, 3) := by decide +kernel
theorem dX9_copy_33 : decode cX9_copy 33 = .ok (.iload_n 3, 1) := by decide +kernel
theorem dX9_copy_34 : decode cX9_copy 34 = .ok (.aaload, 1) := by decide +kernel
theorem dX9_copy_35 : decode cX9_copy 35 = .ok (.astore 7, 2) := by decide +kernel
theorem dX9_copy_37 : decode cX9_copy 37 = .ok (.aload 6, 2) := by decide +kernel
theorem dX9_copy_39 : decode cX9_copy 39 = .ok (.getfield 112, 3) := by decide +kernel
theorem dX9_copy_42 : decode cX9_copy 42 = .ok (.ifCond .ne 11, 3) := by decide +kernel
theorem dX9_copy_45 : decode cX9_copy 45 = .ok (.aload 7, 2) := by decide +kernel
theorem dX9_copy_47 : decode cX9_copy 47 = .ok (.getfield 112, 3) := by decide +kernel
theorem dX9_copy_50 : decode cX9_copy 50 = .ok (.ifCond .eq 9, 3) := by decide +kernel
theorem dX9_copy_53 : decode cX9_copy 53 = .ok (.aload_n 0, 1) := by decide +kernel
theorem dX9_copy_54 : decode cX9_copy 54 = .ok (.iconst 1, 1) := by decide +kernel
theorem dX9_copy_55 : decode cX9_copy 55 = .ok (.invokevirtual 101, 3) := by decide +kernel
theorem dX9_copy_58 : decode cX9_copy 58 = .ok (.ireturn, 1) := by decide +kernel
theorem dX9_copy_59 : decode cX9_copy 59 = .ok (.aload 6, 2) := by decide +kernel
theorem dX9_copy_61 : decode cX9_copy 61 = .ok (.getfield 122, 3) := by decide +kernel
theorem dX9_copy_64 : decode cX9_copy 64 = .ok (.aload 7, 2) := by decide +kernel
theorem dX9_copy_66 : decode cX9_copy 66 = .ok (.getfield 122, 3) := by decide +kernel
theorem dX9_copy_69 : decode cX9_copy 69 = .ok (.if_icmp .eq 9, 3) := by decide +kernel
theorem dX9_copy_72 : decode cX9_copy 72 = .ok (.aload_n 0, 1) := by decide +kernel
theorem dX9_copy_73 : decode cX9_copy 73 = .ok (.iconst 5, 1) := by decide +kernel
theorem dX9_copy_74 : decode cX9_copy 74 = .ok (.invokevirtual 101, 3) := by decide +kernel
theorem dX9_copy_77 : decode cX9_copy 77 = .ok (.ireturn, 1) := by decide +kernel
theorem dX9_copy_78 : decode cX9_copy 78 = .ok (.aload 6, 2) := by decide +kernel
theorem dX9_copy_80 : decode cX9_copy 80 = .ok (.iload_n 2, 1) := by decide +kernel
theorem dX9_copy_81 : decode cX9_copy 81 = .ok (.iload 5, 2) := by decide +kernel
theorem dX9_copy_83 : decode cX9_copy 83 = .ok (.invokevirtual 115, 3) := by decide +kernel
theorem dX9_copy_86 : decode cX9_copy 86 = .ok (.ifCond .eq 15, 3) := by decide +kernel
theorem dX9_copy_89 : decode cX9_copy 89 = .ok (.aload 7, 2) := by decide +kernel
theorem dX9_copy_91 : decode cX9_copy 91 = .ok (.iload 4, 2) := by decide +kernel
theorem dX9_copy_93 : decode cX9_copy 93 = .ok (.iload 5, 2) := by decide +kernel
theorem dX9_copy_95 : decode cX9_copy 95 = .ok (.invokevirtual 115, 3) := by decide +kernel
theorem dX9_copy_98 : decode cX9_copy 98 = .ok (.ifCond .ne 9, 3) := by decide +kernel
theorem dX9_copy_101 : decode cX9_copy 101 = .ok (.aload_n 0, 1) := by decide +kernel
theorem dX9_copy_102 : decode cX9_copy 102 = .ok (.iconst 2, 1) := by decide +kernel
theorem dX9_copy_103 : decode cX9_copy 103 = .ok (.invokevirtual 101, 3) := by decide +kernel
theorem dX9_copy_106 : decode cX9_copy 106 = .ok (.ireturn, 1) := by decide +kernel
theorem dX9_copy_107 : decode cX9_copy 107 = .ok (.aload 6, 2) := by decide +kernel
theorem dX9_copy_109 : decode cX9_copy 109 = .ok (.getfield 125, 3) := by decide +kernel
theorem dX9_copy_112 : decode cX9_copy 112 = .ok (.iload_n 2, 1) := by decide +kernel
theorem dX9_copy_113 : decode cX9_copy 113 = .ok (.aload 7, 2) := by decide +kernel
theorem dX9_copy_115 : decode cX9_copy 115 = .ok (.getfield 125, 3) := by decide +kernel
theorem dX9_copy_118 : decode cX9_copy 118 = .ok (.iload 4, 2) := by decide +kernel
theorem dX9_copy_120 : decode cX9_copy 120 = .ok (.iload 5, 2) := by decide +kernel
theorem dX9_copy_122 : decode cX9_copy 122 = .ok (.invokestatic 128, 3) := by decide +kernel
theorem dX9_copy_125 : decode cX9_copy 125 = .ok (.aload_n 0, 1) := by decide +kernel
theorem dX9_copy_126 : decode cX9_copy 126 = .ok (.iload 5, 2) := by decide +kernel
theorem dX9_copy_128 : decode cX9_copy 128 = .ok (.invokevirtual 109, 3) := by decide +kernel
theorem dX9_copy_131 : decode cX9_copy 131 = .ok (.ireturn, 1) := by decide +kernel
theorem dX9_drop_0 : decode cX9_drop 0 = .ok (.iload_n 1, 1) := by decide +kernel
theorem dX9_drop_1 : decode cX9_drop 1 = .ok (.bipush 8, 2) := by decide +kernel
theorem dX9_drop_3 : decode cX9_drop 3 = .ok (.invokestatic 96, 3) := by decide +kernel
theorem dX9_drop_6 : decode cX9_drop 6 = .ok (.ifCond .ne 6, 3) := by decide +kernel
theorem dX9_drop_9 : decode cX9_drop 9 = .ok (.ldc 100, 2) := by decide +kernel
theorem dX9_drop_11 : decode cX9_drop 11 = .ok (.ireturn, 1) := by decide +kernel
theorem dX9_drop_12 : decode cX9_drop 12 = .ok (.aload_n 0, 1) := by decide +kernel
theorem dX9_drop_13 : decode cX9_drop 13 = .ok (.getfield 11, 3) := by decide +kernel
theorem dX9_drop_16 : decode cX9_drop 16 = .ok (.iload_n 1, 1) := by decide +kernel
theorem dX9_drop_17 : decode cX9_drop 17 = .ok (.aaload, 1) := by decide +kernel
theorem dX9_drop_18 : decode cX9_drop 18 = .ok (.astore_n 2, 1) := by decide +kernel
theorem dX9_drop_19 : decode cX9_drop 19 = .ok (.aload_n 2, 1) := by decide +kernel
theorem dX9_drop_20 : decode cX9_drop 20 = .ok (.getfield 112, 3) := by decide +kernel
theorem dX9_drop_23 : decode cX9_drop 23 = .ok (.ifCond .eq 9, 3) := by decide +kernel
theorem dX9_drop_26 : decode cX9_drop 26 = .ok (.aload_n 0, 1) := by decide +kernel
theorem dX9_drop_27 : decode cX9_drop 27 = .ok (.iconst 1, 1) := by decide +kernel
theorem dX9_drop_28 : decode cX9_drop 28 = .ok (.invokevirtual 101, 3) := by decide +kernel
theorem dX9_drop_31 : decode cX9_drop 31 = .ok (.ireturn, 1) := by decide +kernel
theorem dX9_drop_32 : decode cX9_drop 32 = .ok (.aload_n 2, 1) := by decide +kernel
theorem dX9_drop_33 : decode cX9_drop 33 = .ok (.iconst 1, 1) := by decide +kernel
theorem dX9_drop_34 : decode cX9_drop 34 = .ok (.putfield 112, 3) := by decide +kernel
theorem dX9_drop_37 : decode cX9_drop 37 = .ok (.aload_n 0, 1) := by decide +kernel
theorem dX9_drop_38 : decode cX9_drop 38 = .ok (.aload_n 2, 1) := by decide +kernel
theorem dX9_drop_39 : decode cX9_drop 39 = .ok (.getfield 134, 3) := by decide +kernel
theorem dX9_drop_42 : decode cX9_drop 42 = .ok (.invokevirtual 109, 3) := by decide +kernel
theorem dX9_drop_45 : decode cX9_drop 45 = .ok (.ireturn, 1) := by decide +kernel
theorem dX9_asks_0 : decode cX9_asks 0 = .ok (.iload_n 1, 1) := by decide +kernel
theorem dX9_asks_1 : decode cX9_asks 1 = .ok (.bipush 8, 2) := by decide +kernel
theorem dX9_asks_3 : decode cX9_asks 3 = .ok (.invokestatic 96, 3) := by decide +kernel
theorem dX9_asks_6 : decode cX9_asks 6 = .ok (.ifCond .eq 14, 3) := by decide +kernel
theorem dX9_asks_9 : decode cX9_asks 9 = .ok (.iload_n 3, 1) := by decide +kernel
theorem dX9_asks_10 : decode cX9_asks 10 = .ok (.iconst 1, 1) := by decide +kernel
theorem dX9_asks_11 : decode cX9_asks 11 = .ok (.if_icmp .lt 9, 3) := by decide +kernel
theorem dX9_asks_14 : decode cX9_asks 14 = .ok (.iload_n 3, 1) := by decide +kernel
theorem dX9_asks_15 : decode cX9_asks 15 = .ok (.bipush 20, 2) := by decide +kernel
theorem dX9_asks_17 : decode cX9_asks 17 = .ok (.if_icmp .le 6, 3) := by decide +kernel
theorem dX9_asks_20 : decode cX9_asks 20 = .ok (.ldc 100, 2) := by decide +kernel
theorem dX9_asks_22 : decode cX9_asks 22 = .ok (.ireturn, 1) := by decide +kernel
theorem dX9_asks_23 : decode cX9_asks 23 = .ok (.iload_n 3, 1) := by decide +kernel
theorem dX9_asks_24 : decode cX9_asks 24 = .ok (.bipush 40, 2) := by decide +kernel
theorem dX9_asks_26 : decode cX9_asks 26 = .ok (.aload_n 0, 1) := by decide +kernel
theorem dX9_asks_27 : decode cX9_asks 27 = .ok (.getfield 18, 3) := by decide +kernel
theorem dX9_asks_30 : decode cX9_asks 30 = .ok (.getfield 137, 3) := by decide +kernel
theorem dX9_asks_33 : decode cX9_asks 33 = .ok (.isub, 1) := by decide +kernel
theorem dX9_asks_34 : decode cX9_asks 34 = .ok (.if_icmp .le 6, 3) := by decide +kernel
theorem dX9_asks_37 : decode cX9_asks 37 = .ok (.ldc 140, 2) := by decide +kernel
theorem dX9_asks_39 : decode cX9_asks 39 = .ok (.ireturn, 1) := by decide +kernel
theorem dX9_asks_40 : decode cX9_asks 40 = .ok (.aload_n 0, 1) := by decide +kernel
theorem dX9_asks_41 : decode cX9_asks 41 = .ok (.getfield 11, 3) := by decide +kernel
theorem dX9_asks_44 : decode cX9_asks 44 = .ok (.iload_n 1, 1) := by decide +kernel
theorem dX9_asks_45 : decode cX9_asks 45 = .ok (.aaload, 1) := by decide +kernel
theorem dX9_asks_46 : decode cX9_asks 46 = .ok (.astore 4, 2) := by decide +kernel
theorem dX9_asks_48 : decode cX9_asks 48 = .ok (.aload 4, 2) := by decide +kernel
theorem dX9_asks_50 : decode cX9_asks 50 = .ok (.getfield 112, 3) := by decide +kernel
theorem dX9_asks_53 : decode cX9_asks 53 = .ok (.ifCond .eq 9, 3) := by decide +kernel
theorem dX9_asks_56 : decode cX9_asks 56 = .ok (.aload_n 0, 1) := by decide +kernel
theorem dX9_asks_57 : decode cX9_asks 57 = .ok (.iconst 1, 1) := by decide +kernel
theorem dX9_asks_58 : decode cX9_asks 58 = .ok (.invokevirtual 101, 3) := by decide +kernel
theorem dX9_asks_61 : decode cX9_asks 61 = .ok (.ireturn, 1) := by decide +kernel
theorem dX9_asks_62 : decode cX9_asks 62 = .ok (.aload 4, 2) := by decide +kernel
theorem dX9_asks_64 : decode cX9_asks 64 = .ok (.iload_n 2, 1) := by decide +kernel
theorem dX9_asks_65 : decode cX9_asks 65 = .ok (.iconst 3, 1) := by decide +kernel
theorem dX9_asks_66 : decode cX9_asks 66 = .ok (.iload_n 3, 1) := by decide +kernel
theorem dX9_asks_67 : decode cX9_asks 67 = .ok (.imul, 1) := by decide +kernel
theorem dX9_asks_68 : decode cX9_asks 68 = .ok (.invokevirtual 115, 3) := by decide +kernel
theorem dX9_asks_71 : decode cX9_asks 71 = .ok (.ifCond .ne 9, 3) := by decide +kernel
theorem dX9_asks_74 : decode cX9_asks 74 = .ok (.aload_n 0, 1) := by decide +kernel
theorem dX9_asks_75 : decode cX9_asks 75 = .ok (.iconst 2, 1) := by decide +kernel
theorem dX9_asks_76 : decode cX9_asks 76 = .ok (.invokevirtual 101, 3) := by decide +kernel
theorem dX9_asks_79 : decode cX9_asks 79 = .ok (.ireturn, 1) := by decide +kernel
theorem dX9_asks_80 : decode cX9_asks 80 = .ok (.aload 4, 2) := by decide +kernel
theorem dX9_asks_82 : decode cX9_asks 82 = .ok (.iload_n 2, 1) := by decide +kernel
theorem dX9_asks_83 : decode cX9_asks 83 = .ok (.iload_n 3, 1) := by decide +kernel
theorem dX9_asks_84 : decode cX9_asks 84 = .ok (.aload_n 0, 1) := by decide +kernel
theorem dX9_asks_85 : decode cX9_asks 85 = .ok (.getfield 18, 3) := by decide +kernel
theorem dX9_asks_88 : decode cX9_asks 88 = .ok (.invokevirtual 141, 3) := by decide +kernel
theorem dX9_asks_91 : decode cX9_asks 91 = .ok (.invokevirtual 145, 3) := by decide +kernel
theorem dX9_asks_94 : decode cX9_asks 94 = .ok (.ifCond .ne 6, 3) := by decide +kernel
theorem dX9_asks_97 : decode cX9_asks 97 = .ok (.ldc 100, 2) := by decide +kernel
theorem dX9_asks_99 : decode cX9_asks 99 = .ok (.ireturn, 1) := by decide +kernel
theorem dX9_asks_100 : decode cX9_asks 100 = .ok (.iconst 0, 1) := by decide +kernel
theorem dX9_asks_101 : decode cX9_asks 101 = .ok (.istore 5, 2) := by decide +kernel
theorem dX9_asks_103 : decode cX9_asks 103 = .ok (.iload 5, 2) := by decide +kernel
theorem dX9_asks_105 : decode cX9_asks 105 = .ok (.iload_n 3, 1) := by decide +kernel
theorem dX9_asks_106 : decode cX9_asks 106 = .ok (.if_icmp .ge 52, 3) := by decide +kernel
theorem dX9_asks_109 : decode cX9_asks 109 = .ok (.iload_n 2, 1) := by decide +kernel
theorem dX9_asks_110 : decode cX9_asks 110 = .ok (.iconst 3, 1) := by decide +kernel
theorem dX9_asks_111 : decode cX9_asks 111 = .ok (.iload 5, 2) := by decide +kernel
theorem dX9_asks_113 : decode cX9_asks 113 = .ok (.imul, 1) := by decide +kernel
theorem dX9_asks_114 : decode cX9_asks 114 = .ok (.iadd, 1) := by decide +kernel
theorem dX9_asks_115 : decode cX9_asks 115 = .ok (.istore 6, 2) := by decide +kernel
theorem dX9_asks_117 : decode cX9_asks 117 = .ok (.aload_n 0, 1) := by decide +kernel
theorem dX9_asks_118 : decode cX9_asks 118 = .ok (.getfield 18, 3) := by decide +kernel
theorem dX9_asks_121 : decode cX9_asks 121 = .ok (.aload 4, 2) := by decide +kernel
theorem dX9_asks_123 : decode cX9_asks 123 = .ok (.getfield 125, 3) := by decide +kernel
theorem dX9_asks_126 : decode cX9_asks 126 = .ok (.iload 6, 2) := by decide +kernel
theorem dX9_asks_128 : decode cX9_asks 128 = .ok (.iaload, 1) := by decide +kernel
theorem dX9_asks_129 : decode cX9_asks 129 = .ok (.aload 4, 2) := by decide +kernel
theorem dX9_asks_131 : decode cX9_asks 131 = .ok (.getfield 125, 3) := by decide +kernel
theorem dX9_asks_134 : decode cX9_asks 134 = .ok (.iload 6, 2) := by decide +kernel
theorem dX9_asks_136 : decode cX9_asks 136 = .ok (.iconst 1, 1) := by decide +kernel
theorem dX9_asks_137 : decode cX9_asks 137 = .ok (.iadd, 1) := by decide +kernel
theorem dX9_asks_138 : decode cX9_asks 138 = .ok (.iaload, 1) := by decide +kernel
theorem dX9_asks_139 : decode cX9_asks 139 = .ok (.aload 4, 2) := by decide +kernel
theorem dX9_asks_141 : decode cX9_asks 141 = .ok (.getfield 125, 3) := by decide +kernel
theorem dX9_asks_144 : decode cX9_asks 144 = .ok (.iload 6, 2) := by decide +kernel
theorem dX9_asks_146 : decode cX9_asks 146 = .ok (.iconst 2, 1) := by decide +kernel
theorem dX9_asks_147 : decode cX9_asks 147 = .ok (.iadd, 1) := by decide +kernel
theorem dX9_asks_148 : decode cX9_asks 148 = .ok (.iaload, 1) := by decide +kernel
theorem dX9_asks_149 : decode cX9_asks 149 = .ok (.invokevirtual 149, 3) := by decide +kernel
theorem dX9_asks_152 : decode cX9_asks 152 = .ok (.iinc 5 1, 3) := by decide +kernel
theorem dX9_asks_155 : decode cX9_asks 155 = .ok (.goto (-52), 3) := by decide +kernel
theorem dX9_asks_158 : decode cX9_asks 158 = .ok (.aload_n 0, 1) := by decide +kernel
theorem dX9_asks_159 : decode cX9_asks 159 = .ok (.aload_n 0, 1) := by decide +kernel
theorem dX9_asks_160 : decode cX9_asks 160 = .ok (.getfield 18, 3) := by decide +kernel
theorem dX9_asks_163 : decode cX9_asks 163 = .ok (.getfield 137, 3) := by decide +kernel
theorem dX9_asks_166 : decode cX9_asks 166 = .ok (.invokevirtual 109, 3) := by decide +kernel
theorem dX9_asks_169 : decode cX9_asks 169 = .ok (.ireturn, 1) := by decide +kernel
