theorem dX10_learn_0 : decode cX10_learn 0 = .ok (.aload_n 0, 1) := by decide +kernel
theorem dX10_learn_1 : decode cX10_learn 1 = .ok (.iconst 0, 1) := by decide +kernel
theorem dX10_learn_2 : decode cX10_learn 2 = .ok (.putfield 78, 3) := by decide +kernel
theorem dX10_learn_5 : decode cX10_learn 5 = .ok (.iload_n 1, 1) := by decide +kernel
theorem dX10_learn_6 : decode cX10_learn 6 = .ok (.i2l, 1) := by decide +kernel
theorem dX10_learn_7 : decode cX10_learn 7 = .ok (.lconst 0, 1) := by decide +kernel
theorem dX10_learn_8 : decode cX10_learn 8 = .ok (.ldc2_w 112, 3) := by decide +kernel
theorem dX10_learn_11 : decode cX10_learn 11 = .ok (.invokestatic 87, 3) := by decide +kernel
theorem dX10_learn_14 : decode cX10_learn 14 = .ok (.ifCond .eq 15, 3) := by decide +kernel
theorem dX10_learn_17 : decode cX10_learn 17 = .ok (.iload_n 2, 1) := by decide +kernel
theorem dX10_learn_18 : decode cX10_learn 18 = .ok (.i2l, 1) := by decide +kernel
theorem dX10_learn_19 : decode cX10_learn 19 = .ok (.lconst 0, 1) := by decide +kernel
theorem dX10_learn_20 : decode cX10_learn 20 = .ok (.ldc2_w 112, 3) := by decide +kernel
theorem dX10_learn_23 : decode cX10_learn 23 = .ok (.invokestatic 87, 3) := by decide +kernel
theorem dX10_learn_26 : decode cX10_learn 26 = .ok (.ifCond .ne 6, 3) := by decide +kernel
theorem dX10_learn_29 : decode cX10_learn 29 = .ok (.ldc 97, 2) := by decide +kernel
theorem dX10_learn_31 : decode cX10_learn 31 = .ok (.ireturn, 1) := by decide +kernel
theorem dX10_learn_32 : decode cX10_learn 32 = .ok (.aload_n 0, 1) := by decide +kernel
theorem dX10_learn_33 : decode cX10_learn 33 = .ok (.getfield 72, 3) := by decide +kernel
theorem dX10_learn_36 : decode cX10_learn 36 = .ok (.bipush 10, 2) := by decide +kernel
theorem dX10_learn_38 : decode cX10_learn 38 = .ok (.iload_n 1, 1) := by decide +kernel
theorem dX10_learn_39 : decode cX10_learn 39 = .ok (.isub, 1) := by decide +kernel
theorem dX10_learn_40 : decode cX10_learn 40 = .ok (.if_icmp .ge 7, 3) := by decide +kernel
theorem dX10_learn_43 : decode cX10_learn 43 = .ok (.ldc_w 278, 3) := by decide +kernel
theorem dX10_learn_46 : decode cX10_learn 46 = .ok (.ireturn, 1) := by decide +kernel
theorem dX10_learn_47 : decode cX10_learn 47 = .ok (.aload_n 0, 1) := by decide +kernel
theorem dX10_learn_48 : decode cX10_learn 48 = .ok (.dup, 1) := by decide +kernel
theorem dX10_learn_49 : decode cX10_learn 49 = .ok (.getfield 72, 3) := by decide +kernel
theorem dX10_learn_52 : decode cX10_learn 52 = .ok (.bipush 10, 2) := by decide +kernel
theorem dX10_learn_54 : decode cX10_learn 54 = .ok (.iload_n 1, 1) := by decide +kernel
theorem dX10_learn_55 : decode cX10_learn 55 = .ok (.isub, 1) := by decide +kernel
theorem dX10_learn_56 : decode cX10_learn 56 = .ok (.isub, 1) := by decide +kernel
theorem dX10_learn_57 : decode cX10_learn 57 = .ok (.putfield 72, 3) := by decide +kernel
theorem dX10_learn_60 : decode cX10_learn 60 = .ok (.aload_n 0, 1) := by decide +kernel
theorem dX10_learn_61 : decode cX10_learn 61 = .ok (.lload_n 3, 1) := by decide +kernel
theorem dX10_learn_62 : decode cX10_learn 62 = .ok (.putfield 211, 3) := by decide +kernel
theorem dX10_learn_65 : decode cX10_learn 65 = .ok (.iconst 0, 1) := by decide +kernel
theorem dX10_learn_66 : decode cX10_learn 66 = .ok (.istore 5, 2) := by decide +kernel
theorem dX10_learn_68 : decode cX10_learn 68 = .ok (.iload 5, 2) := by decide +kernel
theorem dX10_learn_70 : decode cX10_learn 70 = .ok (.bipush 11, 2) := by decide +kernel
theorem dX10_learn_72 : decode cX10_learn 72 = .ok (.if_icmp .ge 64, 3) := by decide +kernel
theorem dX10_learn_75 : decode cX10_learn 75 = .ok (.aload_n 0, 1) := by decide +kernel
theorem dX10_learn_76 : decode cX10_learn 76 = .ok (.iload 5, 2) := by decide +kernel
theorem dX10_learn_78 : decode cX10_learn 78 = .ok (.invokevirtual 125, 3) := by decide +kernel
theorem dX10_learn_81 : decode cX10_learn 81 = .ok (.istore 6, 2) := by decide +kernel
theorem dX10_learn_83 : decode cX10_learn 83 = .ok (.iconst 0, 1) := by decide +kernel
theorem dX10_learn_84 : decode cX10_learn 84 = .ok (.istore 7, 2) := by decide +kernel
theorem dX10_learn_86 : decode cX10_learn 86 = .ok (.iload 6, 2) := by decide +kernel
theorem dX10_learn_88 : decode cX10_learn 88 = .ok (.iload_n 2, 1) := by decide +kernel
theorem dX10_learn_89 : decode cX10_learn 89 = .ok (.if_icmp .lt 20, 3) := by decide +kernel
theorem dX10_learn_92 : decode cX10_learn 92 = .ok (.iload 6, 2) := by decide +kernel
theorem dX10_learn_94 : decode cX10_learn 94 = .ok (.aload_n 0, 1) := by decide +kernel
theorem dX10_learn_95 : decode cX10_learn 95 = .ok (.invokevirtual 225, 3) := by decide +kernel
theorem dX10_learn_98 : decode cX10_learn 98 = .ok (.iconst 2, 1) := by decide +kernel
theorem dX10_learn_99 : decode cX10_learn 99 = .ok (.iload_n 1, 1) := by decide +kernel
theorem dX10_learn_100 : decode cX10_learn 100 = .ok (.imul, 1) := by decide +kernel
theorem dX10_learn_101 : decode cX10_learn 101 = .ok (.iconst 1, 1) := by decide +kernel
theorem dX10_learn_102 : decode cX10_learn 102 = .ok (.iadd, 1) := by decide +kernel
theorem dX10_learn_103 : decode cX10_learn 103 = .ok (.irem, 1) := by decide +kernel
theorem dX10_learn_104 : decode cX10_learn 104 = .ok (.iadd, 1) := by decide +kernel
theorem dX10_learn_105 : decode cX10_learn 105 = .ok (.iload_n 1, 1) := by decide +kernel
theorem dX10_learn_106 : decode cX10_learn 106 = .ok (.isub, 1) := by decide +kernel
theorem dX10_learn_107 : decode cX10_learn 107 = .ok (.istore 7, 2) := by decide +kernel
theorem dX10_learn_109 : decode cX10_learn 109 = .ok (.aload_n 0, 1) := by decide +kernel
theorem dX10_learn_110 : decode cX10_learn 110 = .ok (.getfield 31, 3) := by decide +kernel
theorem dX10_learn_113 : decode cX10_learn 113 = .ok (.bipush 10, 2) := by decide +kernel
theorem dX10_learn_115 : decode cX10_learn 115 = .ok (.iload 5, 2) := by decide +kernel
theorem dX10_learn_117 : decode cX10_learn 117 = .ok (.iadd, 1) := by decide +kernel
theorem dX10_learn_118 : decode cX10_learn 118 = .ok (.iload 7, 2) := by decide +kernel
theorem dX10_learn_120 : decode cX10_learn 120 = .ok (.ifCond .ge 7, 3) := by decide +kernel
theorem dX10_learn_123 : decode cX10_learn 123 = .ok (.iconst 0, 1) := by decide +kernel
theorem dX10_learn_124 : decode cX10_learn 124 = .ok (.goto 5, 3) := by decide +kernel
theorem dX10_learn_127 : decode cX10_learn 127 = .ok (.iload 7, 2) := by decide +kernel
theorem dX10_learn_129 : decode cX10_learn 129 = .ok (.iastore, 1) := by decide +kernel
theorem dX10_learn_130 : decode cX10_learn 130 = .ok (.iinc 5 1, 3) := by decide +kernel
theorem dX10_learn_133 : decode cX10_learn 133 = .ok (.goto (-65), 3) := by decide +kernel
theorem dX10_learn_136 : decode cX10_learn 136 = .ok (.aload_n 0, 1) := by decide +kernel
theorem dX10_learn_137 : decode cX10_learn 137 = .ok (.getfield 72, 3) := by decide +kernel
theorem dX10_learn_140 : decode cX10_learn 140 = .ok (.ireturn, 1) := by decide +kernel
theorem dX10_guess_0 : decode cX10_guess 0 = .ok (.aload_n 0, 1) := by decide +kernel
theorem dX10_guess_1 : decode cX10_guess 1 = .ok (.iconst 0, 1) := by decide +kernel
theorem dX10_guess_2 : decode cX10_guess 2 = .ok (.putfield 78, 3) := by decide +kernel
theorem dX10_guess_5 : decode cX10_guess 5 = .ok (.iload_n 1, 1) := by decide +kernel
theorem dX10_guess_6 : decode cX10_guess 6 = .ok (.i2l, 1) := by decide +kernel
theorem dX10_guess_7 : decode cX10_guess 7 = .ok (.lconst 0, 1) := by decide +kernel
theorem dX10_guess_8 : decode cX10_guess 8 = .ok (.ldc2_w 114, 3) := by decide +kernel
theorem dX10_guess_11 : decode cX10_guess 11 = .ok (.invokestatic 87, 3) := by decide +kernel
theorem dX10_guess_14 : decode cX10_guess 14 = .ok (.ifCond .eq 25, 3) := by decide +kernel
theorem dX10_guess_17 : decode cX10_guess 17 = .ok (.iload_n 2, 1) := by decide +kernel
theorem dX10_guess_18 : decode cX10_guess 18 = .ok (.i2l, 1) := by decide +kernel
theorem dX10_guess_19 : decode cX10_guess 19 = .ok (.lconst 1, 1) := by decide +kernel
theorem dX10_guess_20 : decode cX10_guess 20 = .ok (.ldc2_w 128, 3) := by decide +kernel
theorem dX10_guess_23 : decode cX10_guess 23 = .ok (.invokestatic 87, 3) := by decide +kernel
theorem dX10_guess_26 : decode cX10_guess 26 = .ok (.ifCond .eq 13, 3) := by decide +kernel
theorem dX10_guess_29 : decode cX10_guess 29 = .ok (.iload_n 3, 1) := by decide +kernel
theorem dX10_guess_30 : decode cX10_guess 30 = .ok (.i2l, 1) := by decide +kernel
theorem dX10_guess_31 : decode cX10_guess 31 = .ok (.lconst 0, 1) := by decide +kernel
theorem dX10_guess_32 : decode cX10_guess 32 = .ok (.lconst 1, 1) := by decide +kernel
theorem dX10_guess_33 : decode cX10_guess 33 = .ok (.invokestatic 87, 3) := by decide +kernel
theorem dX10_guess_36 : decode cX10_guess 36 = .ok (.ifCond .ne 6, 3) := by decide +kernel
theorem dX10_guess_39 : decode cX10_guess 39 = .ok (.ldc 97, 2) := by decide +kernel
theorem dX10_guess_41 : decode cX10_guess 41 = .ok (.ireturn, 1) := by decide +kernel
theorem dX10_guess_42 : decode cX10_guess 42 = .ok (.iconst 1, 1) := by decide +kernel
theorem dX10_guess_43 : decode cX10_guess 43 = .ok (.istore 4, 2) := by decide +kernel
theorem dX10_guess_45 : decode cX10_guess 45 = .ok (.iconst 2, 1) := by decide +kernel
theorem dX10_guess_46 : decode cX10_guess 46 = .ok (.istore 5, 2) := by decide +kernel
theorem dX10_guess_48 : decode cX10_guess 48 = .ok (.iconst 0, 1) := by decide +kernel
theorem dX10_guess_49 : decode cX10_guess 49 = .ok (.istore 6, 2) := by decide +kernel
theorem dX10_guess_51 : decode cX10_guess 51 = .ok (.iload 6, 2) := by decide +kernel
theorem dX10_guess_53 : decode cX10_guess 53 = .ok (.iload_n 2, 1) := by decide +kernel
theorem dX10_guess_54 : decode cX10_guess 54 = .ok (.if_icmp .ge 27, 3) := by decide +kernel
theorem dX10_guess_57 : decode cX10_guess 57 = .ok (.iload 4, 2) := by decide +kernel
theorem dX10_guess_59 : decode cX10_guess 59 = .ok (.iconst 2, 1) := by decide +kernel
theorem dX10_guess_60 : decode cX10_guess 60 = .ok (.iload_n 1, 1) := by decide +kernel
theorem dX10_guess_61 : decode cX10_guess 61 = .ok (.imul, 1) := by decide +kernel
theorem dX10_guess_62 : decode cX10_guess 62 = .ok (.imul, 1) := by decide +kernel
theorem dX10_guess_63 : decode cX10_guess 63 = .ok (.istore 4, 2) := by decide +kernel
theorem dX10_guess_65 : decode cX10_guess 65 = .ok (.iload 5, 2) := by decide +kernel
theorem dX10_guess_67 : decode cX10_guess 67 = .ok (.iconst 2, 1) := by decide +kernel
theorem dX10_guess_68 : decode cX10_guess 68 = .ok (.iload_n 1, 1) := by decide +kernel
theorem dX10_guess_69 : decode cX10_guess 69 = .ok (.imul, 1) := by decide +kernel
theorem dX10_guess_70 : decode cX10_guess 70 = .ok (.iconst 1, 1) := by decide +kernel
theorem dX10_guess_71 : decode cX10_guess 71 = .ok (.iadd, 1) := by decide +kernel
theorem dX10_guess_72 : decode cX10_guess 72 = .ok (.imul, 1) := by decide +kernel
theorem dX10_guess_73 : decode cX10_guess 73 = .ok (.istore 5, 2) := by decide +kernel
theorem dX10_guess_75 : decode cX10_guess 75 = .ok (.iinc 6 1, 3) := by decide +kernel
theorem dX10_guess_78 : decode cX10_guess 78 = .ok (.goto (-27), 3) := by decide +kernel
theorem dX10_guess_81 : decode cX10_guess 81 = .ok (.iload 5, 2) := by decide +kernel
theorem dX10_guess_83 : decode cX10_guess 83 = .ok (.iload 4, 2) := by decide +kernel
theorem dX10_guess_85 : decode cX10_guess 85 = .ok (.isub, 1) := by decide +kernel
theorem dX10_guess_86 : decode cX10_guess 86 = .ok (.istore 6, 2) := by decide +kernel
theorem dX10_guess_88 : decode cX10_guess 88 = .ok (.iload 5, 2) := by decide +kernel
theorem dX10_guess_90 : decode cX10_guess 90 = .ok (.istore 7, 2) := by decide +kernel
theorem dX10_guess_92 : decode cX10_guess 92 = .ok (.iload 7, 2) := by decide +kernel
theorem dX10_guess_94 : decode cX10_guess 94 = .ok (.ifCond .eq 21, 3) := by decide +kernel
theorem dX10_guess_97 : decode cX10_guess 97 = .ok (.iload 6, 2) := by decide +kernel
theorem dX10_guess_99 : decode cX10_guess 99 = .ok (.iload 7, 2) := by decide +kernel
theorem dX10_guess_101 : decode cX10_guess 101 = .ok (.irem, 1) := by decide +kernel
theorem dX10_guess_102 : decode cX10_guess 102 = .ok (.istore 8, 2) := by decide +kernel
theorem dX10_guess_104 : decode cX10_guess 104 = .ok (.iload 7, 2) := by decide +kernel
theorem dX10_guess_106 : decode cX10_guess 106 = .ok (.istore 6, 2) := by decide +kernel
theorem dX10_guess_108 : decode cX10_guess 108 = .ok (.iload 8, 2) := by decide +kernel
theorem dX10_guess_110 : decode cX10_guess 110 = .ok (.istore 7, 2) := by decide +kernel
theorem dX10_guess_112 : decode cX10_guess 112 = .ok (.goto (-20), 3) := by decide +kernel
theorem dX10_guess_115 : decode cX10_guess 115 = .ok (.iload_n 3, 1) := by decide +kernel
theorem dX10_guess_116 : decode cX10_guess 116 = .ok (.ifCond .ne 14, 3) := by decide +kernel
theorem dX10_guess_119 : decode cX10_guess 119 = .ok (.iload 5, 2) := by decide +kernel
theorem dX10_guess_121 : decode cX10_guess 121 = .ok (.iload 4, 2) := by decide +kernel
theorem dX10_guess_123 : decode cX10_guess 123 = .ok (.isub, 1) := by decide +kernel
theorem dX10_guess_124 : decode cX10_guess 124 = .ok (.iload 6, 2) := by decide +kernel
theorem dX10_guess_126 : decode cX10_guess 126 = .ok (.idiv, 1) := by decide +kernel
theorem dX10_guess_127 : decode cX10_guess 127 = .ok (.goto 8, 3) := by decide +kernel
theorem dX10_guess_130 : decode cX10_guess 130 = .ok (.iload 5, 2) := by decide +kernel
theorem dX10_guess_132 : decode cX10_guess 132 = .ok (.iload 6, 2) := by decide +kernel
theorem dX10_guess_134 : decode cX10_guess 134 = .ok (.idiv, 1) := by decide +kernel
theorem dX10_guess_135 : decode cX10_guess 135 = .ok (.ireturn, 1) := by decide +kernel
theorem dX10_toldSum_0 : decode cX10_toldSum 0 = .ok (.aload_n 0, 1) := by decide +kernel
theorem dX10_toldSum_1 : decode cX10_toldSum 1 = .ok (.iload_n 1, 1) := by decide +kernel
theorem dX10_toldSum_2 : decode cX10_toldSum 2 = .ok (.invokestatic 205, 3) := by decide +kernel
theorem dX10_toldSum_5 : decode cX10_toldSum 5 = .ok (.iload_n 1, 1) := by decide +kernel
theorem dX10_toldSum_6 : decode cX10_toldSum 6 = .ok (.invokestatic 208, 3) := by decide +kernel
theorem dX10_toldSum_9 : decode cX10_toldSum 9 = .ok (.invokevirtual 222, 3) := by decide +kernel
theorem dX10_toldSum_12 : decode cX10_toldSum 12 = .ok (.ireturn, 1) := by decide +kernel
theorem dX10_kindOf_0 : decode cX10_kindOf 0 = .ok (.aload_n 0, 1) := by decide +kernel
theorem dX10_kindOf_1 : decode cX10_kindOf 1 = .ok (.getfield 37, 3) := by decide +kernel
theorem dX10_kindOf_4 : decode cX10_kindOf 4 = .ok (.iload_n 1, 1) := by decide +kernel
theorem dX10_kindOf_5 : decode cX10_kindOf 5 = .ok (.baload, 1) := by decide +kernel
theorem dX10_kindOf_6 : decode cX10_kindOf 6 = .ok (.ifCond .ne 11, 3) := by decide +kernel
theorem dX10_kindOf_9 : decode cX10_kindOf 9 = .ok (.aload_n 0, 1) := by decide +kernel
theorem dX10_kindOf_10 : decode cX10_kindOf 10 = .ok (.iload_n 1, 1) := by decide +kernel
theorem dX10_kindOf_11 : decode cX10_kindOf 11 = .ok (.invokevirtual 290, 3) := by decide +kernel
theorem dX10_kindOf_14 : decode cX10_kindOf 14 = .ok (.ifCond .ne 7, 3) := by decide +kernel
theorem dX10_kindOf_17 : decode cX10_kindOf 17 = .ok (.iconst 5, 1) := by decide +kernel
theorem dX10_kindOf_18 : decode cX10_kindOf 18 = .ok (.goto 6, 3) := by decide +kernel
theorem dX10_kindOf_21 : decode cX10_kindOf 21 = .ok (.iload_n 1, 1) := by decide +kernel
theorem dX10_kindOf_22 : decode cX10_kindOf 22 = .ok (.iconst 1, 1) := by decide +kernel
theorem dX10_kindOf_23 : decode cX10_kindOf 23 = .ok (.iadd, 1) := by decide +kernel
theorem dX10_kindOf_24 : decode cX10_kindOf 24 = .ok (.ireturn, 1) := by decide +kernel
theorem dX10_isOf_0 : decode cX10_isOf 0 = .ok (.iload_n 1, 1) := by decide +kernel
theorem dX10_isOf_1 : decode cX10_isOf 1 = .ok (.ifCond .eq 18, 3) := by decide +kernel
theorem dX10_isOf_4 : decode cX10_isOf 4 = .ok (.iload_n 0, 1) := by decide +kernel
theorem dX10_isOf_5 : decode cX10_isOf 5 = .ok (.iload_n 1, 1) := by decide +kernel
theorem dX10_isOf_6 : decode cX10_isOf 6 = .ok (.if_icmp .eq 13, 3) := by decide +kernel
theorem dX10_isOf_9 : decode cX10_isOf 9 = .ok (.iload_n 1, 1) := by decide +kernel
theorem dX10_isOf_10 : decode cX10_isOf 10 = .ok (.iconst 3, 1) := by decide +kernel
theorem dX10_isOf_11 : decode cX10_isOf 11 = .ok (.if_icmp .ne 12, 3) := by decide +kernel
theorem dX10_isOf_14 : decode cX10_isOf 14 = .ok (.iload_n 0, 1) := by decide +kernel
theorem dX10_isOf_15 : decode cX10_isOf 15 = .ok (.iconst 4, 1) := by decide +kernel
theorem dX10_isOf_16 : decode cX10_isOf 16 = .ok (.if_icmp .ne 7, 3) := by decide +kernel
theorem dX10_isOf_19 : decode cX10_isOf 19 = .ok (.iconst 1, 1) := by decide +kernel
theorem dX10_isOf_20 : decode cX10_isOf 20 = .ok (.goto 4, 3) := by decide +kernel
theorem dX10_isOf_23 : decode cX10_isOf 23 = .ok (.iconst 0, 1) := by decide +kernel
theorem dX10_isOf_24 : decode cX10_isOf 24 = .ok (.ireturn, 1) := by decide +kernel
theorem dX10_kind_0 : decode cX10_kind 0 = .ok (.aload_n 0, 1) := by decide +kernel
theorem dX10_kind_1 : decode cX10_kind 1 = .ok (.iconst 0, 1) := by decide +kernel
theorem dX10_kind_2 : decode cX10_kind 2 = .ok (.putfield 78, 3) := by decide +kernel
theorem dX10_kind_5 : decode cX10_kind 5 = .ok (.iload_n 1, 1) := by decide +kernel
theorem dX10_kind_6 : decode cX10_kind 6 = .ok (.invokestatic 202, 3) := by decide +kernel
theorem dX10_kind_9 : decode cX10_kind 9 = .ok (.ifCond .eq 11, 3) := by decide +kernel
theorem dX10_kind_12 : decode cX10_kind 12 = .ok (.aload_n 0, 1) := by decide +kernel
theorem dX10_kind_13 : decode cX10_kind 13 = .ok (.iload_n 1, 1) := by decide +kernel
theorem dX10_kind_14 : decode cX10_kind 14 = .ok (.invokevirtual 293, 3) := by decide +kernel
theorem dX10_kind_17 : decode cX10_kind 17 = .ok (.goto 5, 3) := by decide +kernel
theorem dX10_kind_20 : decode cX10_kind 20 = .ok (.ldc 97, 2) := by decide +kernel
theorem dX10_kind_22 : decode cX10_kind 22 = .ok (.ireturn, 1) := by decide +kernel
theorem dX10_as_0 : decode cX10_as 0 = .ok (.aload_n 0, 1) := by decide +kernel
theorem dX10_as_1 : decode cX10_as 1 = .ok (.iconst 0, 1) := by decide +kernel
theorem dX10_as_2 : decode cX10_as 2 = .ok (.putfield 78, 3) := by decide +kernel
theorem dX10_as_5 : decode cX10_as 5 = .ok (.iload_n 1, 1) := by decide +kernel
theorem dX10_as_6 : decode cX10_as 6 = .ok (.invokestatic 202, 3) := by decide +kernel
theorem dX10_as_9 : decode cX10_as 9 = .ok (.ifCond .eq 15, 3) := by decide +kernel
theorem dX10_as_12 : decode cX10_as 12 = .ok (.iload_n 2, 1) := by decide +kernel
theorem dX10_as_13 : decode cX10_as 13 = .ok (.i2l, 1) := by decide +kernel
theorem dX10_as_14 : decode cX10_as 14 = .ok (.lconst 0, 1) := by decide +kernel
theorem dX10_as_15 : decode cX10_as 15 = .ok (.ldc2_w 259, 3) := by decide +kernel
theorem dX10_as_18 : decode cX10_as 18 = .ok (.invokestatic 87, 3) := by decide +kernel
theorem dX10_as_21 : decode cX10_as 21 = .ok (.ifCond .ne 6, 3) := by decide +kernel
theorem dX10_as_24 : decode cX10_as 24 = .ok (.ldc 97, 2) := by decide +kernel
theorem dX10_as_26 : decode cX10_as 26 = .ok (.ireturn, 1) := by decide +kernel
theorem dX10_as_27 : decode cX10_as 27 = .ok (.aload_n 0, 1) := by decide +kernel
theorem dX10_as_28 : decode cX10_as 28 = .ok (.iconst 0, 1) := by decide +kernel
theorem dX10_as_29 : decode cX10_as 29 = .ok (.putfield 81, 3) := by decide +kernel
theorem dX10_as_32 : decode cX10_as 32 = .ok (.aload_n 0, 1) := by decide +kernel
theorem dX10_as_33 : decode cX10_as 33 = .ok (.iload_n 1, 1) := by decide +kernel
theorem dX10_as_34 : decode cX10_as 34 = .ok (.invokevirtual 293, 3) := by decide +kernel
theorem dX10_as_37 : decode cX10_as 37 = .ok (.iload_n 2, 1) := by decide +kernel
theorem dX10_as_38 : decode cX10_as 38 = .ok (.invokestatic 296, 3) := by decide +kernel
theorem dX10_as_41 : decode cX10_as 41 = .ok (.ifCond .eq 7, 3) := by decide +kernel
theorem dX10_as_44 : decode cX10_as 44 = .ok (.iload_n 1, 1) := by decide +kernel
theorem dX10_as_45 : decode cX10_as 45 = .ok (.goto 8, 3) := by decide +kernel
theorem dX10_as_48 : decode cX10_as 48 = .ok (.aload_n 0, 1) := by decide +kernel
theorem dX10_as_49 : decode cX10_as 49 = .ok (.iconst 3, 1) := by decide +kernel
theorem dX10_as_50 : decode cX10_as 50 = .ok (.invokevirtual 98, 3) := by decide +kernel
theorem dX10_as_53 : decode cX10_as 53 = .ok (.ireturn, 1) := by decide +kernel
theorem dX10_began_0 : decode cX10_began 0 = .ok (.aload_n 0, 1) := by decide +kernel
theorem dX10_began_1 : decode cX10_began 1 = .ok (.getfield 300, 3) := by decide +kernel
theorem dX10_began_4 : decode cX10_began 4 = .ok (.bipush 16, 2) := by decide +kernel
theorem dX10_began_6 : decode cX10_began 6 = .ok (.if_icmp .ge 23, 3) := by decide +kernel
theorem dX10_began_9 : decode cX10_began 9 = .ok (.aload_n 0, 1) := by decide +kernel
theorem dX10_began_10 : decode cX10_began 10 = .ok (.getfield 75, 3) := by decide +kernel
theorem dX10_began_13 : decode cX10_began 13 = .ok (.aload_n 0, 1) := by decide +kernel
theorem dX10_began_14 : decode cX10_began 14 = .ok (.getfield 300, 3) := by decide +kernel
theorem dX10_began_17 : decode cX10_began 17 = .ok (.iload_n 1, 1) := by decide +kernel
theorem dX10_began_18 : decode cX10_began 18 = .ok (.iastore, 1) := by decide +kernel
theorem dX10_began_19 : decode cX10_began 19 = .ok (.aload_n 0, 1) := by decide +kernel
theorem dX10_began_20 : decode cX10_began 20 = .ok (.dup, 1) := by decide +kernel
theorem dX10_began_21 : decode cX10_began 21 = .ok (.getfield 300, 3) := by decide +kernel
theorem dX10_began_24 : decode cX10_began 24 = .ok (.iconst 1, 1) := by decide +kernel
theorem dX10_began_25 : decode cX10_began 25 = .ok (.iadd, 1) := by decide +kernel
theorem dX10_began_26 : decode cX10_began 26 = .ok (.putfield 300, 3) := by decide +kernel
theorem dX10_began_29 : decode cX10_began 29 = .ok (.return_, 1) := by decide +kernel
theorem dX10_markOf_0 : decode cX10_markOf 0 = .ok (.iload_n 2, 1) := by decide +kernel
theorem dX10_markOf_1 : decode cX10_markOf 1 = .ok (.iconst 4, 1) := by decide +kernel
theorem dX10_markOf_2 : decode cX10_markOf 2 = .ok (.if_icmp .ne 9, 3) := by decide +kernel
theorem dX10_markOf_5 : decode cX10_markOf 5 = .ok (.aload_n 0, 1) := by decide +kernel
theorem dX10_markOf_6 : decode cX10_markOf 6 = .ok (.bipush 23, 2) := by decide +kernel
theorem dX10_markOf_8 : decode cX10_markOf 8 = .ok (.invokevirtual 303, 3) := by decide +kernel
theorem dX10_markOf_11 : decode cX10_markOf 11 = .ok (.iload_n 2, 1) := by decide +kernel
theorem dX10_markOf_12 : decode cX10_markOf 12 = .ok (.iconst 2, 1) := by decide +kernel
theorem dX10_markOf_13 : decode cX10_markOf 13 = .ok (.if_icmp .eq 11, 3) := by decide +kernel
theorem dX10_markOf_16 : decode cX10_markOf 16 = .ok (.iload_n 2, 1) := by decide +kernel
theorem dX10_markOf_17 : decode cX10_markOf 17 = .ok (.iconst 3, 1) := by decide +kernel
theorem dX10_markOf_18 : decode cX10_markOf 18 = .ok (.invokestatic 296, 3) := by decide +kernel
theorem dX10_markOf_21 : decode cX10_markOf 21 = .ok (.ifCond .eq 19, 3) := by decide +kernel
theorem dX10_markOf_24 : decode cX10_markOf 24 = .ok (.aload_n 0, 1) := by decide +kernel
theorem dX10_markOf_25 : decode cX10_markOf 25 = .ok (.iload_n 2, 1) := by decide +kernel
theorem dX10_markOf_26 : decode cX10_markOf 26 = .ok (.iconst 2, 1) := by decide +kernel
theorem dX10_markOf_27 : decode cX10_markOf 27 = .ok (.if_icmp .ne 8, 3) := by decide +kernel
theorem dX10_markOf_30 : decode cX10_markOf 30 = .ok (.bipush 21, 2) := by decide +kernel
theorem dX10_markOf_32 : decode cX10_markOf 32 = .ok (.goto 5, 3) := by decide +kernel
theorem dX10_markOf_35 : decode cX10_markOf 35 = .ok (.bipush 22, 2) := by decide +kernel
theorem dX10_markOf_37 : decode cX10_markOf 37 = .ok (.invokevirtual 303, 3) := by decide +kernel
theorem dX10_markOf_40 : decode cX10_markOf 40 = .ok (.aload_n 0, 1) := by decide +kernel
theorem dX10_markOf_41 : decode cX10_markOf 41 = .ok (.bipush 20, 2) := by decide +kernel
theorem dX10_markOf_43 : decode cX10_markOf 43 = .ok (.invokevirtual 303, 3) := by decide +kernel
theorem dX10_markOf_46 : decode cX10_markOf 46 = .ok (.iload_n 1, 1) := by decide +kernel
theorem dX10_markOf_47 : decode cX10_markOf 47 = .ok (.iload_n 2, 1) := by decide +kernel
theorem dX10_markOf_48 : decode cX10_markOf 48 = .ok (.iconst 2, 1) := by decide +kernel
theorem dX10_markOf_49 : decode cX10_markOf 49 = .ok (.if_icmp .ne 12, 3) := by decide +kernel
theorem dX10_markOf_52 : decode cX10_markOf 52 = .ok (.aload_n 0, 1) := by decide +kernel
theorem dX10_markOf_53 : decode cX10_markOf 53 = .ok (.getfield 19, 3) := by decide +kernel
theorem dX10_markOf_56 : decode cX10_markOf 56 = .ok (.iconst 0, 1) := by decide +kernel
theorem dX10_markOf_57 : decode cX10_markOf 57 = .ok (.iaload, 1) := by decide +kernel
theorem dX10_markOf_58 : decode cX10_markOf 58 = .ok (.goto 17, 3) := by decide +kernel
theorem dX10_markOf_61 : decode cX10_markOf 61 = .ok (.iload_n 2, 1) := by decide +kernel
theorem dX10_markOf_62 : decode cX10_markOf 62 = .ok (.iconst 3, 1) := by decide +kernel
theorem dX10_markOf_63 : decode cX10_markOf 63 = .ok (.invokestatic 296, 3) := by decide +kernel
theorem dX10_markOf_66 : decode cX10_markOf 66 = .ok (.ifCond .eq 8, 3) := by decide +kernel
theorem dX10_markOf_69 : decode cX10_markOf 69 = .ok (.bipush 100, 2) := by decide +kernel
theorem dX10_markOf_71 : decode cX10_markOf 71 = .ok (.goto 4, 3) := by decide +kernel
theorem dX10_markOf_74 : decode cX10_markOf 74 = .ok (.iconst 0, 1) := by decide +kernel
theorem dX10_markOf_75 : decode cX10_markOf 75 = .ok (.iadd, 1) := by decide +kernel
theorem dX10_markOf_76 : decode cX10_markOf 76 = .ok (.istore_n 3, 1) := by decide +kernel
theorem dX10_markOf_77 : decode cX10_markOf 77 = .ok (.iload_n 2, 1) := by decide +kernel
theorem dX10_markOf_78 : decode cX10_markOf 78 = .ok (.iconst 4, 1) := by decide +kernel
theorem dX10_markOf_79 : decode cX10_markOf 79 = .ok (.if_icmp .ne 9, 3) := by decide +kernel
theorem dX10_markOf_82 : decode cX10_markOf 82 = .ok (.iconst 2, 1) := by decide +kernel
theorem dX10_markOf_83 : decode cX10_markOf 83 = .ok (.iload_n 3, 1) := by decide +kernel
theorem dX10_markOf_84 : decode cX10_markOf 84 = .ok (.imul, 1) := by decide +kernel
theorem dX10_markOf_85 : decode cX10_markOf 85 = .ok (.goto 4, 3) := by decide +kernel
theorem dX10_markOf_88 : decode cX10_markOf 88 = .ok (.iload_n 3, 1) := by decide +kernel
theorem dX10_markOf_89 : decode cX10_markOf 89 = .ok (.ireturn, 1) := by decide +kernel
theorem dX10_sizeOf_0 : decode cX10_sizeOf 0 = .ok (.iload_n 2, 1) := by decide +kernel
theorem dX10_sizeOf_1 : decode cX10_sizeOf 1 = .ok (.iconst 4, 1) := by decide +kernel
theorem dX10_sizeOf_2 : decode cX10_sizeOf 2 = .ok (.if_icmp .ne 9, 3) := by decide +kernel
theorem dX10_sizeOf_5 : decode cX10_sizeOf 5 = .ok (.aload_n 0, 1) := by decide +kernel
theorem dX10_sizeOf_6 : decode cX10_sizeOf 6 = .ok (.bipush 13, 2) := by decide +kernel
theorem dX10_sizeOf_8 : decode cX10_sizeOf 8 = .ok (.invokevirtual 303, 3) := by decide +kernel
theorem dX10_sizeOf_11 : decode cX10_sizeOf 11 = .ok (.iload_n 2, 1) := by decide +kernel
theorem dX10_sizeOf_12 : decode cX10_sizeOf 12 = .ok (.iconst 1, 1) := by decide +kernel
theorem dX10_sizeOf_13 : decode cX10_sizeOf 13 = .ok (.if_icmp .eq 29, 3) := by decide +kernel
theorem dX10_sizeOf_16 : decode cX10_sizeOf 16 = .ok (.aload_n 0, 1) := by decide +kernel
theorem dX10_sizeOf_17 : decode cX10_sizeOf 17 = .ok (.iload_n 2, 1) := by decide +kernel
theorem dX10_sizeOf_18 : decode cX10_sizeOf 18 = .ok (.iconst 2, 1) := by decide +kernel
theorem dX10_sizeOf_19 : decode cX10_sizeOf 19 = .ok (.if_icmp .ne 8, 3) := by decide +kernel
theorem dX10_sizeOf_22 : decode cX10_sizeOf 22 = .ok (.bipush 11, 2) := by decide +kernel
theorem dX10_sizeOf_24 : decode cX10_sizeOf 24 = .ok (.goto 15, 3) := by decide +kernel
theorem dX10_sizeOf_27 : decode cX10_sizeOf 27 = .ok (.iload_n 2, 1) := by decide +kernel
theorem dX10_sizeOf_28 : decode cX10_sizeOf 28 = .ok (.iconst 5, 1) := by decide +kernel
theorem dX10_sizeOf_29 : decode cX10_sizeOf 29 = .ok (.if_icmp .ne 8, 3) := by decide +kernel
theorem dX10_sizeOf_32 : decode cX10_sizeOf 32 = .ok (.bipush 14, 2) := by decide +kernel
theorem dX10_sizeOf_34 : decode cX10_sizeOf 34 = .ok (.goto 5, 3) := by decide +kernel
theorem dX10_sizeOf_37 : decode cX10_sizeOf 37 = .ok (.bipush 12, 2) := by decide +kernel
theorem dX10_sizeOf_39 : decode cX10_sizeOf 39 = .ok (.invokevirtual 303, 3) := by decide +kernel
theorem dX10_sizeOf_42 : decode cX10_sizeOf 42 = .ok (.aload_n 0, 1) := by decide +kernel
theorem dX10_sizeOf_43 : decode cX10_sizeOf 43 = .ok (.bipush 10, 2) := by decide +kernel
theorem dX10_sizeOf_45 : decode cX10_sizeOf 45 = .ok (.invokevirtual 303, 3) := by decide +kernel
theorem dX10_sizeOf_48 : decode cX10_sizeOf 48 = .ok (.aload_n 0, 1) := by decide +kernel
theorem dX10_sizeOf_49 : decode cX10_sizeOf 49 = .ok (.iload_n 1, 1) := by decide +kernel
theorem dX10_sizeOf_50 : decode cX10_sizeOf 50 = .ok (.invokevirtual 290, 3) := by decide +kernel
theorem dX10_sizeOf_53 : decode cX10_sizeOf 53 = .ok (.istore_n 3, 1) := by decide +kernel
theorem dX10_sizeOf_54 : decode cX10_sizeOf 54 = .ok (.iload_n 2, 1) := by decide +kernel
theorem dX10_sizeOf_55 : decode cX10_sizeOf 55 = .ok (.iconst 2, 1) := by decide +kernel
theorem dX10_sizeOf_56 : decode cX10_sizeOf 56 = .ok (.if_icmp .ne 14, 3) := by decide +kernel
theorem dX10_sizeOf_59 : decode cX10_sizeOf 59 = .ok (.iload_n 3, 1) := by decide +kernel
theorem dX10_sizeOf_60 : decode cX10_sizeOf 60 = .ok (.aload_n 0, 1) := by decide +kernel
theorem dX10_sizeOf_61 : decode cX10_sizeOf 61 = .ok (.iload_n 1, 1) := by decide +kernel
theorem dX10_sizeOf_62 : decode cX10_sizeOf 62 = .ok (.iload_n 2, 1) := by decide +kernel
theorem dX10_sizeOf_63 : decode cX10_sizeOf 63 = .ok (.invokevirtual 306, 3) := by decide +kernel
theorem dX10_sizeOf_66 : decode cX10_sizeOf 66 = .ok (.iadd, 1) := by decide +kernel
theorem dX10_sizeOf_67 : decode cX10_sizeOf 67 = .ok (.goto 43, 3) := by decide +kernel
theorem dX10_sizeOf_70 : decode cX10_sizeOf 70 = .ok (.iload_n 2, 1) := by decide +kernel
theorem dX10_sizeOf_71 : decode cX10_sizeOf 71 = .ok (.iconst 5, 1) := by decide +kernel
theorem dX10_sizeOf_72 : decode cX10_sizeOf 72 = .ok (.if_icmp .ne 8, 3) := by decide +kernel
theorem dX10_sizeOf_75 : decode cX10_sizeOf 75 = .ok (.iload_n 3, 1) := by decide +kernel
theorem dX10_sizeOf_76 : decode cX10_sizeOf 76 = .ok (.ineg, 1) := by decide +kernel
theorem dX10_sizeOf_77 : decode cX10_sizeOf 77 = .ok (.goto 33, 3) := by decide +kernel
theorem dX10_sizeOf_80 : decode cX10_sizeOf 80 = .ok (.iload_n 2, 1) := by decide +kernel
theorem dX10_sizeOf_81 : decode cX10_sizeOf 81 = .ok (.iconst 3, 1) := by decide +kernel
theorem dX10_sizeOf_82 : decode cX10_sizeOf 82 = .ok (.if_icmp .ne 9, 3) := by decide +kernel
theorem dX10_sizeOf_85 : decode cX10_sizeOf 85 = .ok (.iconst 2, 1) := by decide +kernel
theorem dX10_sizeOf_86 : decode cX10_sizeOf 86 = .ok (.iload_n 3, 1) := by decide +kernel
theorem dX10_sizeOf_87 : decode cX10_sizeOf 87 = .ok (.imul, 1) := by decide +kernel
theorem dX10_sizeOf_88 : decode cX10_sizeOf 88 = .ok (.goto 22, 3) := by decide +kernel
theorem dX10_sizeOf_91 : decode cX10_sizeOf 91 = .ok (.iload_n 2, 1) := by decide +kernel
theorem dX10_sizeOf_92 : decode cX10_sizeOf 92 = .ok (.iconst 4, 1) := by decide +kernel
theorem dX10_sizeOf_93 : decode cX10_sizeOf 93 = .ok (.if_icmp .ne 16, 3) := by decide +kernel
theorem dX10_sizeOf_96 : decode cX10_sizeOf 96 = .ok (.iconst 2, 1) := by decide +kernel
theorem dX10_sizeOf_97 : decode cX10_sizeOf 97 = .ok (.iload_n 3, 1) := by decide +kernel
theorem dX10_sizeOf_98 : decode cX10_sizeOf 98 = .ok (.imul, 1) := by decide +kernel
theorem dX10_sizeOf_99 : decode cX10_sizeOf 99 = .ok (.aload_n 0, 1) := by decide +kernel
theorem dX10_sizeOf_100 : decode cX10_sizeOf 100 = .ok (.iload_n 1, 1) := by decide +kernel
theorem dX10_sizeOf_101 : decode cX10_sizeOf 101 = .ok (.iload_n 2, 1) := by decide +kernel
theorem dX10_sizeOf_102 : decode cX10_sizeOf 102 = .ok (.invokevirtual 306, 3) := by decide +kernel
theorem dX10_sizeOf_105 : decode cX10_sizeOf 105 = .ok (.isub, 1) := by decide +kernel
theorem dX10_sizeOf_106 : decode cX10_sizeOf 106 = .ok (.goto 4, 3) := by decide +kernel
theorem dX10_sizeOf_109 : decode cX10_sizeOf 109 = .ok (.iload_n 3, 1) := by decide +kernel
theorem dX10_sizeOf_110 : decode cX10_sizeOf 110 = .ok (.ireturn, 1) := by decide +kernel
