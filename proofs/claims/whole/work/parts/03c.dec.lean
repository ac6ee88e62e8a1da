theorem dX4_drawName_0 : decode cX4_drawName 0 = .ok (.aload_n 1, 1) := by decide +kernel
theorem dX4_drawName_1 : decode cX4_drawName 1 = .ok (.invokevirtual 64, 3) := by decide +kernel
theorem dX4_drawName_4 : decode cX4_drawName 4 = .ok (.invokestatic 67, 3) := by decide +kernel
theorem dX4_drawName_7 : decode cX4_drawName 7 = .ok (.istore_n 3, 1) := by decide +kernel
theorem dX4_drawName_8 : decode cX4_drawName 8 = .ok (.iload_n 3, 1) := by decide +kernel
theorem dX4_drawName_9 : decode cX4_drawName 9 = .ok (.istore 4, 2) := by decide +kernel
theorem dX4_drawName_11 : decode cX4_drawName 11 = .ok (.iconst 0, 1) := by decide +kernel
theorem dX4_drawName_12 : decode cX4_drawName 12 = .ok (.istore 5, 2) := by decide +kernel
theorem dX4_drawName_14 : decode cX4_drawName 14 = .ok (.iload 5, 2) := by decide +kernel
theorem dX4_drawName_16 : decode cX4_drawName 16 = .ok (.iload_n 3, 1) := by decide +kernel
theorem dX4_drawName_17 : decode cX4_drawName 17 = .ok (.if_icmp .ge 27, 3) := by decide +kernel
theorem dX4_drawName_20 : decode cX4_drawName 20 = .ok (.iload 5, 2) := by decide +kernel
theorem dX4_drawName_22 : decode cX4_drawName 22 = .ok (.bipush 10, 2) := by decide +kernel
theorem dX4_drawName_24 : decode cX4_drawName 24 = .ok (.if_icmp .ge 20, 3) := by decide +kernel
theorem dX4_drawName_27 : decode cX4_drawName 27 = .ok (.aload_n 0, 1) := by decide +kernel
theorem dX4_drawName_28 : decode cX4_drawName 28 = .ok (.getfield 18, 3) := by decide +kernel
theorem dX4_drawName_31 : decode cX4_drawName 31 = .ok (.iload 5, 2) := by decide +kernel
theorem dX4_drawName_33 : decode cX4_drawName 33 = .ok (.aload_n 2, 1) := by decide +kernel
theorem dX4_drawName_34 : decode cX4_drawName 34 = .ok (.iload 5, 2) := by decide +kernel
theorem dX4_drawName_36 : decode cX4_drawName 36 = .ok (.iaload, 1) := by decide +kernel
theorem dX4_drawName_37 : decode cX4_drawName 37 = .ok (.iastore, 1) := by decide +kernel
theorem dX4_drawName_38 : decode cX4_drawName 38 = .ok (.iinc 5 1, 3) := by decide +kernel
theorem dX4_drawName_41 : decode cX4_drawName 41 = .ok (.goto (-27), 3) := by decide +kernel
theorem dX4_drawName_44 : decode cX4_drawName 44 = .ok (.iload_n 3, 1) := by decide +kernel
theorem dX4_drawName_45 : decode cX4_drawName 45 = .ok (.bipush 10, 2) := by decide +kernel
theorem dX4_drawName_47 : decode cX4_drawName 47 = .ok (.if_icmp .ge 16, 3) := by decide +kernel
theorem dX4_drawName_50 : decode cX4_drawName 50 = .ok (.aload_n 0, 1) := by decide +kernel
theorem dX4_drawName_51 : decode cX4_drawName 51 = .ok (.getfield 18, 3) := by decide +kernel
theorem dX4_drawName_54 : decode cX4_drawName 54 = .ok (.iload_n 3, 1) := by decide +kernel
theorem dX4_drawName_55 : decode cX4_drawName 55 = .ok (.aload_n 2, 1) := by decide +kernel
theorem dX4_drawName_56 : decode cX4_drawName 56 = .ok (.bipush 10, 2) := by decide +kernel
theorem dX4_drawName_58 : decode cX4_drawName 58 = .ok (.iaload, 1) := by decide +kernel
theorem dX4_drawName_59 : decode cX4_drawName 59 = .ok (.iastore, 1) := by decide +kernel
theorem dX4_drawName_60 : decode cX4_drawName 60 = .ok (.iinc 4 1, 3) := by decide +kernel
theorem dX4_drawName_63 : decode cX4_drawName 63 = .ok (.aload_n 0, 1) := by decide +kernel
theorem dX4_drawName_64 : decode cX4_drawName 64 = .ok (.getfield 12, 3) := by decide +kernel
theorem dX4_drawName_67 : decode cX4_drawName 67 = .ok (.aload_n 0, 1) := by decide +kernel
theorem dX4_drawName_68 : decode cX4_drawName 68 = .ok (.getfield 18, 3) := by decide +kernel
theorem dX4_drawName_71 : decode cX4_drawName 71 = .ok (.iconst 0, 1) := by decide +kernel
theorem dX4_drawName_72 : decode cX4_drawName 72 = .ok (.iload 4, 2) := by decide +kernel
theorem dX4_drawName_74 : decode cX4_drawName 74 = .ok (.invokevirtual 38, 3) := by decide +kernel
theorem dX4_drawName_77 : decode cX4_drawName 77 = .ok (.istore 5, 2) := by decide +kernel
theorem dX4_drawName_79 : decode cX4_drawName 79 = .ok (.iload 5, 2) := by decide +kernel
theorem dX4_drawName_81 : decode cX4_drawName 81 = .ok (.ldc 46, 2) := by decide +kernel
theorem dX4_drawName_83 : decode cX4_drawName 83 = .ok (.if_icmp .ne 6, 3) := by decide +kernel
theorem dX4_drawName_86 : decode cX4_drawName 86 = .ok (.iconst 0, 1) := by decide +kernel
theorem dX4_drawName_87 : decode cX4_drawName 87 = .ok (.istore 5, 2) := by decide +kernel
theorem dX4_drawName_89 : decode cX4_drawName 89 = .ok (.iload 5, 2) := by decide +kernel
theorem dX4_drawName_91 : decode cX4_drawName 91 = .ok (.iload_n 3, 1) := by decide +kernel
theorem dX4_drawName_92 : decode cX4_drawName 92 = .ok (.if_icmp .lt 10, 3) := by decide +kernel
theorem dX4_drawName_95 : decode cX4_drawName 95 = .ok (.aload_n 1, 1) := by decide +kernel
theorem dX4_drawName_96 : decode cX4_drawName 96 = .ok (.invokevirtual 73, 3) := by decide +kernel
theorem dX4_drawName_99 : decode cX4_drawName 99 = .ok (.goto 9, 3) := by decide +kernel
theorem dX4_drawName_102 : decode cX4_drawName 102 = .ok (.aload_n 1, 1) := by decide +kernel
theorem dX4_drawName_103 : decode cX4_drawName 103 = .ok (.iload 5, 2) := by decide +kernel
theorem dX4_drawName_105 : decode cX4_drawName 105 = .ok (.invokevirtual 76, 3) := by decide +kernel
theorem dX4_drawName_108 : decode cX4_drawName 108 = .ok (.ireturn, 1) := by decide +kernel
theorem dX4_learnNames_0 : decode cX4_learnNames 0 = .ok (.aload_n 0, 1) := by decide +kernel
theorem dX4_learnNames_1 : decode cX4_learnNames 1 = .ok (.getfield 12, 3) := by decide +kernel
theorem dX4_learnNames_4 : decode cX4_learnNames 4 = .ok (.lload 5, 2) := by decide +kernel
theorem dX4_learnNames_6 : decode cX4_learnNames 6 = .ok (.invokevirtual 28, 3) := by decide +kernel
theorem dX4_learnNames_9 : decode cX4_learnNames 9 = .ok (.iconst 2, 1) := by decide +kernel
theorem dX4_learnNames_10 : decode cX4_learnNames 10 = .ok (.iload_n 3, 1) := by decide +kernel
theorem dX4_learnNames_11 : decode cX4_learnNames 11 = .ok (.imul, 1) := by decide +kernel
theorem dX4_learnNames_12 : decode cX4_learnNames 12 = .ok (.iconst 1, 1) := by decide +kernel
theorem dX4_learnNames_13 : decode cX4_learnNames 13 = .ok (.iadd, 1) := by decide +kernel
theorem dX4_learnNames_14 : decode cX4_learnNames 14 = .ok (.iconst 1, 1) := by decide +kernel
theorem dX4_learnNames_15 : decode cX4_learnNames 15 = .ok (.invokestatic 79, 3) := by decide +kernel
theorem dX4_learnNames_18 : decode cX4_learnNames 18 = .ok (.istore 7, 2) := by decide +kernel
theorem dX4_learnNames_20 : decode cX4_learnNames 20 = .ok (.iconst 0, 1) := by decide +kernel
theorem dX4_learnNames_21 : decode cX4_learnNames 21 = .ok (.istore 8, 2) := by decide +kernel
theorem dX4_learnNames_23 : decode cX4_learnNames 23 = .ok (.iload 8, 2) := by decide +kernel
theorem dX4_learnNames_25 : decode cX4_learnNames 25 = .ok (.aload_n 1, 1) := by decide +kernel
theorem dX4_learnNames_26 : decode cX4_learnNames 26 = .ok (.arraylength, 1) := by decide +kernel
theorem dX4_learnNames_27 : decode cX4_learnNames 27 = .ok (.if_icmp .ge 54, 3) := by decide +kernel
theorem dX4_learnNames_30 : decode cX4_learnNames 30 = .ok (.iload 8, 2) := by decide +kernel
theorem dX4_learnNames_32 : decode cX4_learnNames 32 = .ok (.aload_n 2, 1) := by decide +kernel
theorem dX4_learnNames_33 : decode cX4_learnNames 33 = .ok (.arraylength, 1) := by decide +kernel
theorem dX4_learnNames_34 : decode cX4_learnNames 34 = .ok (.if_icmp .ge 47, 3) := by decide +kernel
theorem dX4_learnNames_37 : decode cX4_learnNames 37 = .ok (.aload_n 1, 1) := by decide +kernel
theorem dX4_learnNames_38 : decode cX4_learnNames 38 = .ok (.iload 8, 2) := by decide +kernel
theorem dX4_learnNames_40 : decode cX4_learnNames 40 = .ok (.aload_n 2, 1) := by decide +kernel
theorem dX4_learnNames_41 : decode cX4_learnNames 41 = .ok (.iload 8, 2) := by decide +kernel
theorem dX4_learnNames_43 : decode cX4_learnNames 43 = .ok (.iaload, 1) := by decide +kernel
theorem dX4_learnNames_44 : decode cX4_learnNames 44 = .ok (.iload 4, 2) := by decide +kernel
theorem dX4_learnNames_46 : decode cX4_learnNames 46 = .ok (.if_icmp .lt 27, 3) := by decide +kernel
theorem dX4_learnNames_49 : decode cX4_learnNames 49 = .ok (.aload_n 2, 1) := by decide +kernel
theorem dX4_learnNames_50 : decode cX4_learnNames 50 = .ok (.iload 8, 2) := by decide +kernel
theorem dX4_learnNames_52 : decode cX4_learnNames 52 = .ok (.iaload, 1) := by decide +kernel
theorem dX4_learnNames_53 : decode cX4_learnNames 53 = .ok (.aload_n 0, 1) := by decide +kernel
theorem dX4_learnNames_54 : decode cX4_learnNames 54 = .ok (.getfield 12, 3) := by decide +kernel
theorem dX4_learnNames_57 : decode cX4_learnNames 57 = .ok (.invokevirtual 82, 3) := by decide +kernel
theorem dX4_learnNames_60 : decode cX4_learnNames 60 = .ok (.iload 7, 2) := by decide +kernel
theorem dX4_learnNames_62 : decode cX4_learnNames 62 = .ok (.irem, 1) := by decide +kernel
theorem dX4_learnNames_63 : decode cX4_learnNames 63 = .ok (.iadd, 1) := by decide +kernel
theorem dX4_learnNames_64 : decode cX4_learnNames 64 = .ok (.iload_n 3, 1) := by decide +kernel
theorem dX4_learnNames_65 : decode cX4_learnNames 65 = .ok (.isub, 1) := by decide +kernel
theorem dX4_learnNames_66 : decode cX4_learnNames 66 = .ok (.iconst 0, 1) := by decide +kernel
theorem dX4_learnNames_67 : decode cX4_learnNames 67 = .ok (.invokestatic 79, 3) := by decide +kernel
theorem dX4_learnNames_70 : decode cX4_learnNames 70 = .ok (.goto 4, 3) := by decide +kernel
theorem dX4_learnNames_73 : decode cX4_learnNames 73 = .ok (.iconst 0, 1) := by decide +kernel
theorem dX4_learnNames_74 : decode cX4_learnNames 74 = .ok (.iastore, 1) := by decide +kernel
theorem dX4_learnNames_75 : decode cX4_learnNames 75 = .ok (.iinc 8 1, 3) := by decide +kernel
theorem dX4_learnNames_78 : decode cX4_learnNames 78 = .ok (.goto (-55), 3) := by decide +kernel
theorem dX4_learnNames_81 : decode cX4_learnNames 81 = .ok (.return_, 1) := by decide +kernel
theorem dX5_init_0 : decode cX5_init 0 = .ok (.aload_n 0, 1) := by decide +kernel
theorem dX5_init_1 : decode cX5_init 1 = .ok (.invokespecial 3, 3) := by decide +kernel
theorem dX5_init_4 : decode cX5_init 4 = .ok (.aload_n 0, 1) := by decide +kernel
theorem dX5_init_5 : decode cX5_init 5 = .ok (.iconst 4, 1) := by decide +kernel
theorem dX5_init_6 : decode cX5_init 6 = .ok (.bipush 11, 2) := by decide +kernel
theorem dX5_init_8 : decode cX5_init 8 = .ok (.multianewarray 9 2, 4) := by decide +kernel
theorem dX5_init_12 : decode cX5_init 12 = .ok (.putfield 11, 3) := by decide +kernel
theorem dX5_init_15 : decode cX5_init 15 = .ok (.aload_n 0, 1) := by decide +kernel
theorem dX5_init_16 : decode cX5_init 16 = .ok (.iconst 4, 1) := by decide +kernel
theorem dX5_init_17 : decode cX5_init 17 = .ok (.newarray .boolean, 2) := by decide +kernel
theorem dX5_init_19 : decode cX5_init 19 = .ok (.putfield 16, 3) := by decide +kernel
theorem dX5_init_22 : decode cX5_init 22 = .ok (.aload_n 0, 1) := by decide +kernel
theorem dX5_init_23 : decode cX5_init 23 = .ok (.bipush 11, 2) := by decide +kernel
theorem dX5_init_25 : decode cX5_init 25 = .ok (.newarray .int, 2) := by decide +kernel
theorem dX5_init_27 : decode cX5_init 27 = .ok (.putfield 20, 3) := by decide +kernel
theorem dX5_init_30 : decode cX5_init 30 = .ok (.return_, 1) := by decide +kernel
theorem dX5_weightsIfNot_0 : decode cX5_weightsIfNot 0 = .ok (.aload_n 0, 1) := by decide +kernel
theorem dX5_weightsIfNot_1 : decode cX5_weightsIfNot 1 = .ok (.getfield 16, 3) := by decide +kernel
theorem dX5_weightsIfNot_4 : decode cX5_weightsIfNot 4 = .ok (.iload_n 1, 1) := by decide +kernel
theorem dX5_weightsIfNot_5 : decode cX5_weightsIfNot 5 = .ok (.baload, 1) := by decide +kernel
theorem dX5_weightsIfNot_6 : decode cX5_weightsIfNot 6 = .ok (.ifCond .ne 8, 3) := by decide +kernel
theorem dX5_weightsIfNot_9 : decode cX5_weightsIfNot 9 = .ok (.iload_n 1, 1) := by decide +kernel
theorem dX5_weightsIfNot_10 : decode cX5_weightsIfNot 10 = .ok (.iload_n 2, 1) := by decide +kernel
theorem dX5_weightsIfNot_11 : decode cX5_weightsIfNot 11 = .ok (.if_icmp .ne 10, 3) := by decide +kernel
theorem dX5_weightsIfNot_14 : decode cX5_weightsIfNot 14 = .ok (.aload_n 0, 1) := by decide +kernel
theorem dX5_weightsIfNot_15 : decode cX5_weightsIfNot 15 = .ok (.getfield 20, 3) := by decide +kernel
theorem dX5_weightsIfNot_18 : decode cX5_weightsIfNot 18 = .ok (.goto 9, 3) := by decide +kernel
theorem dX5_weightsIfNot_21 : decode cX5_weightsIfNot 21 = .ok (.aload_n 0, 1) := by decide +kernel
theorem dX5_weightsIfNot_22 : decode cX5_weightsIfNot 22 = .ok (.getfield 11, 3) := by decide +kernel
theorem dX5_weightsIfNot_25 : decode cX5_weightsIfNot 25 = .ok (.iload_n 1, 1) := by decide +kernel
theorem dX5_weightsIfNot_26 : decode cX5_weightsIfNot 26 = .ok (.aaload, 1) := by decide +kernel
theorem dX5_weightsIfNot_27 : decode cX5_weightsIfNot 27 = .ok (.areturn, 1) := by decide +kernel
theorem dX5_howManyTold_0 : decode cX5_howManyTold 0 = .ok (.iconst 0, 1) := by decide +kernel
theorem dX5_howManyTold_1 : decode cX5_howManyTold 1 = .ok (.istore_n 1, 1) := by decide +kernel
theorem dX5_howManyTold_2 : decode cX5_howManyTold 2 = .ok (.iconst 0, 1) := by decide +kernel
theorem dX5_howManyTold_3 : decode cX5_howManyTold 3 = .ok (.istore_n 2, 1) := by decide +kernel
theorem dX5_howManyTold_4 : decode cX5_howManyTold 4 = .ok (.iload_n 2, 1) := by decide +kernel
theorem dX5_howManyTold_5 : decode cX5_howManyTold 5 = .ok (.iconst 4, 1) := by decide +kernel
theorem dX5_howManyTold_6 : decode cX5_howManyTold 6 = .ok (.if_icmp .ge 21, 3) := by decide +kernel
theorem dX5_howManyTold_9 : decode cX5_howManyTold 9 = .ok (.iload_n 1, 1) := by decide +kernel
theorem dX5_howManyTold_10 : decode cX5_howManyTold 10 = .ok (.aload_n 0, 1) := by decide +kernel
theorem dX5_howManyTold_11 : decode cX5_howManyTold 11 = .ok (.getfield 11, 3) := by decide +kernel
theorem dX5_howManyTold_14 : decode cX5_howManyTold 14 = .ok (.iload_n 2, 1) := by decide +kernel
theorem dX5_howManyTold_15 : decode cX5_howManyTold 15 = .ok (.aaload, 1) := by decide +kernel
theorem dX5_howManyTold_16 : decode cX5_howManyTold 16 = .ok (.invokestatic 24, 3) := by decide +kernel
theorem dX5_howManyTold_19 : decode cX5_howManyTold 19 = .ok (.iadd, 1) := by decide +kernel
theorem dX5_howManyTold_20 : decode cX5_howManyTold 20 = .ok (.istore_n 1, 1) := by decide +kernel
theorem dX5_howManyTold_21 : decode cX5_howManyTold 21 = .ok (.iinc 2 1, 3) := by decide +kernel
theorem dX5_howManyTold_24 : decode cX5_howManyTold 24 = .ok (.goto (-20), 3) := by decide +kernel
theorem dX5_howManyTold_27 : decode cX5_howManyTold 27 = .ok (.iload_n 1, 1) := by decide +kernel
theorem dX5_howManyTold_28 : decode cX5_howManyTold 28 = .ok (.ireturn, 1) := by decide +kernel
theorem dX5_kindOf_0 : decode cX5_kindOf 0 = .ok (.aload_n 0, 1) := by decide +kernel
theorem dX5_kindOf_1 : decode cX5_kindOf 1 = .ok (.getfield 16, 3) := by decide +kernel
theorem dX5_kindOf_4 : decode cX5_kindOf 4 = .ok (.iload_n 1, 1) := by decide +kernel
theorem dX5_kindOf_5 : decode cX5_kindOf 5 = .ok (.baload, 1) := by decide +kernel
theorem dX5_kindOf_6 : decode cX5_kindOf 6 = .ok (.ifCond .ne 15, 3) := by decide +kernel
theorem dX5_kindOf_9 : decode cX5_kindOf 9 = .ok (.aload_n 0, 1) := by decide +kernel
theorem dX5_kindOf_10 : decode cX5_kindOf 10 = .ok (.getfield 11, 3) := by decide +kernel
theorem dX5_kindOf_13 : decode cX5_kindOf 13 = .ok (.iload_n 1, 1) := by decide +kernel
theorem dX5_kindOf_14 : decode cX5_kindOf 14 = .ok (.aaload, 1) := by decide +kernel
theorem dX5_kindOf_15 : decode cX5_kindOf 15 = .ok (.invokestatic 24, 3) := by decide +kernel
theorem dX5_kindOf_18 : decode cX5_kindOf 18 = .ok (.ifCond .ne 7, 3) := by decide +kernel
theorem dX5_kindOf_21 : decode cX5_kindOf 21 = .ok (.iconst 5, 1) := by decide +kernel
theorem dX5_kindOf_22 : decode cX5_kindOf 22 = .ok (.goto 6, 3) := by decide +kernel
theorem dX5_kindOf_25 : decode cX5_kindOf 25 = .ok (.iload_n 1, 1) := by decide +kernel
theorem dX5_kindOf_26 : decode cX5_kindOf 26 = .ok (.iconst 1, 1) := by decide +kernel
theorem dX5_kindOf_27 : decode cX5_kindOf 27 = .ok (.iadd, 1) := by decide +kernel
theorem dX5_kindOf_28 : decode cX5_kindOf 28 = .ok (.ireturn, 1) := by decide +kernel
theorem dX5_howManyEmpty_0 : decode cX5_howManyEmpty 0 = .ok (.iconst 0, 1) := by decide +kernel
theorem dX5_howManyEmpty_1 : decode cX5_howManyEmpty 1 = .ok (.istore_n 1, 1) := by decide +kernel
theorem dX5_howManyEmpty_2 : decode cX5_howManyEmpty 2 = .ok (.iconst 0, 1) := by decide +kernel
theorem dX5_howManyEmpty_3 : decode cX5_howManyEmpty 3 = .ok (.istore_n 2, 1) := by decide +kernel
theorem dX5_howManyEmpty_4 : decode cX5_howManyEmpty 4 = .ok (.iload_n 2, 1) := by decide +kernel
theorem dX5_howManyEmpty_5 : decode cX5_howManyEmpty 5 = .ok (.iconst 4, 1) := by decide +kernel
theorem dX5_howManyEmpty_6 : decode cX5_howManyEmpty 6 = .ok (.if_icmp .ge 21, 3) := by decide +kernel
theorem dX5_howManyEmpty_9 : decode cX5_howManyEmpty 9 = .ok (.aload_n 0, 1) := by decide +kernel
theorem dX5_howManyEmpty_10 : decode cX5_howManyEmpty 10 = .ok (.iload_n 2, 1) := by decide +kernel
theorem dX5_howManyEmpty_11 : decode cX5_howManyEmpty 11 = .ok (.invokevirtual 28, 3) := by decide +kernel
theorem dX5_howManyEmpty_14 : decode cX5_howManyEmpty 14 = .ok (.iconst 5, 1) := by decide +kernel
theorem dX5_howManyEmpty_15 : decode cX5_howManyEmpty 15 = .ok (.if_icmp .ne 6, 3) := by decide +kernel
theorem dX5_howManyEmpty_18 : decode cX5_howManyEmpty 18 = .ok (.iinc 1 1, 3) := by decide +kernel
theorem dX5_howManyEmpty_21 : decode cX5_howManyEmpty 21 = .ok (.iinc 2 1, 3) := by decide +kernel
theorem dX5_howManyEmpty_24 : decode cX5_howManyEmpty 24 = .ok (.goto (-20), 3) := by decide +kernel
theorem dX5_howManyEmpty_27 : decode cX5_howManyEmpty 27 = .ok (.iload_n 1, 1) := by decide +kernel
theorem dX5_howManyEmpty_28 : decode cX5_howManyEmpty 28 = .ok (.ireturn, 1) := by decide +kernel
theorem dX6_init_0 : decode cX6_init 0 = .ok (.aload_n 0, 1) := by decide +kernel
theorem dX6_init_1 : decode cX6_init 1 = .ok (.invokespecial 3, 3) := by decide +kernel
theorem dX6_init_4 : decode cX6_init 4 = .ok (.aload_n 0, 1) := by decide +kernel
theorem dX6_init_5 : decode cX6_init 5 = .ok (.bipush 40, 2) := by decide +kernel
theorem dX6_init_7 : decode cX6_init 7 = .ok (.newarray .int, 2) := by decide +kernel
theorem dX6_init_9 : decode cX6_init 9 = .ok (.putfield 9, 3) := by decide +kernel
theorem dX6_init_12 : decode cX6_init 12 = .ok (.aload_n 0, 1) := by decide +kernel
theorem dX6_init_13 : decode cX6_init 13 = .ok (.bipush 40, 2) := by decide +kernel
theorem dX6_init_15 : decode cX6_init 15 = .ok (.newarray .int, 2) := by decide +kernel
theorem dX6_init_17 : decode cX6_init 17 = .ok (.putfield 15, 3) := by decide +kernel
theorem dX6_init_20 : decode cX6_init 20 = .ok (.aload_n 0, 1) := by decide +kernel
theorem dX6_init_21 : decode cX6_init 21 = .ok (.bipush 40, 2) := by decide +kernel
theorem dX6_init_23 : decode cX6_init 23 = .ok (.newarray .int, 2) := by decide +kernel
theorem dX6_init_25 : decode cX6_init 25 = .ok (.putfield 18, 3) := by decide +kernel
theorem dX6_init_28 : decode cX6_init 28 = .ok (.aload_n 0, 1) := by decide +kernel
theorem dX6_init_29 : decode cX6_init 29 = .ok (.bipush 40, 2) := by decide +kernel
theorem dX6_init_31 : decode cX6_init 31 = .ok (.newarray .int, 2) := by decide +kernel
theorem dX6_init_33 : decode cX6_init 33 = .ok (.putfield 21, 3) := by decide +kernel
theorem dX6_init_36 : decode cX6_init 36 = .ok (.aload_n 0, 1) := by decide +kernel
theorem dX6_init_37 : decode cX6_init 37 = .ok (.iconst 0, 1) := by decide +kernel
theorem dX6_init_38 : decode cX6_init 38 = .ok (.putfield 24, 3) := by decide +kernel
theorem dX6_init_41 : decode cX6_init 41 = .ok (.return_, 1) := by decide +kernel
theorem dX6_append_0 : decode cX6_append 0 = .ok (.aload_n 0, 1) := by decide +kernel
theorem dX6_append_1 : decode cX6_append 1 = .ok (.getfield 24, 3) := by decide +kernel
theorem dX6_append_4 : decode cX6_append 4 = .ok (.bipush 40, 2) := by decide +kernel
theorem dX6_append_6 : decode cX6_append 6 = .ok (.invokestatic 28, 3) := by decide +kernel
theorem dX6_append_9 : decode cX6_append 9 = .ok (.ifCond .ne 4, 3) := by decide +kernel
theorem dX6_append_12 : decode cX6_append 12 = .ok (.return_, 1) := by decide +kernel
theorem dX6_append_13 : decode cX6_append 13 = .ok (.aload_n 0, 1) := by decide +kernel
theorem dX6_append_14 : decode cX6_append 14 = .ok (.getfield 21, 3) := by decide +kernel
theorem dX6_append_17 : decode cX6_append 17 = .ok (.aload_n 0, 1) := by decide +kernel
theorem dX6_append_18 : decode cX6_append 18 = .ok (.getfield 24, 3) := by decide +kernel
theorem dX6_append_21 : decode cX6_append 21 = .ok (.aload_n 0, 1) := by decide +kernel
theorem dX6_append_22 : decode cX6_append 22 = .ok (.iload_n 2, 1) := by decide +kernel
theorem dX6_append_23 : decode cX6_append 23 = .ok (.invokevirtual 32, 3) := by decide +kernel
theorem dX6_append_26 : decode cX6_append 26 = .ok (.iastore, 1) := by decide +kernel
theorem dX6_append_27 : decode cX6_append 27 = .ok (.aload_n 0, 1) := by decide +kernel
theorem dX6_append_28 : decode cX6_append 28 = .ok (.getfield 9, 3) := by decide +kernel
theorem dX6_append_31 : decode cX6_append 31 = .ok (.aload_n 0, 1) := by decide +kernel
theorem dX6_append_32 : decode cX6_append 32 = .ok (.getfield 24, 3) := by decide +kernel
theorem dX6_append_35 : decode cX6_append 35 = .ok (.iload_n 1, 1) := by decide +kernel
theorem dX6_append_36 : decode cX6_append 36 = .ok (.iastore, 1) := by decide +kernel
theorem dX6_append_37 : decode cX6_append 37 = .ok (.aload_n 0, 1) := by decide +kernel
theorem dX6_append_38 : decode cX6_append 38 = .ok (.getfield 15, 3) := by decide +kernel
theorem dX6_append_41 : decode cX6_append 41 = .ok (.aload_n 0, 1) := by decide +kernel
theorem dX6_append_42 : decode cX6_append 42 = .ok (.getfield 24, 3) := by decide +kernel
theorem dX6_append_45 : decode cX6_append 45 = .ok (.iload_n 2, 1) := by decide +kernel
theorem dX6_append_46 : decode cX6_append 46 = .ok (.iastore, 1) := by decide +kernel
theorem dX6_append_47 : decode cX6_append 47 = .ok (.aload_n 0, 1) := by decide +kernel
theorem dX6_append_48 : decode cX6_append 48 = .ok (.getfield 18, 3) := by decide +kernel
theorem dX6_append_51 : decode cX6_append 51 = .ok (.aload_n 0, 1) := by decide +kernel
theorem dX6_append_52 : decode cX6_append 52 = .ok (.getfield 24, 3) := by decide +kernel
theorem dX6_append_55 : decode cX6_append 55 = .ok (.iload_n 3, 1) := by decide +kernel
theorem dX6_append_56 : decode cX6_append 56 = .ok (.iastore, 1) := by decide +kernel
theorem dX6_append_57 : decode cX6_append 57 = .ok (.aload_n 0, 1) := by decide +kernel
theorem dX6_append_58 : decode cX6_append 58 = .ok (.dup, 1) := by decide +kernel
theorem dX6_append_59 : decode cX6_append 59 = .ok (.getfield 24, 3) := by decide +kernel
theorem dX6_append_62 : decode cX6_append 62 = .ok (.iconst 1, 1) := by decide +kernel
theorem dX6_append_63 : decode cX6_append 63 = .ok (.iadd, 1) := by decide +kernel
theorem dX6_append_64 : decode cX6_append 64 = .ok (.putfield 24, 3) := by decide +kernel
theorem dX6_append_67 : decode cX6_append 67 = .ok (.return_, 1) := by decide +kernel
theorem dX6_lastTick_0 : decode cX6_lastTick 0 = .ok (.aload_n 0, 1) := by decide +kernel
theorem dX6_lastTick_1 : decode cX6_lastTick 1 = .ok (.getfield 24, 3) := by decide +kernel
theorem dX6_lastTick_4 : decode cX6_lastTick 4 = .ok (.ifCond .ne 7, 3) := by decide +kernel
theorem dX6_lastTick_7 : decode cX6_lastTick 7 = .ok (.iconst 0, 1) := by decide +kernel
theorem dX6_lastTick_8 : decode cX6_lastTick 8 = .ok (.goto 14, 3) := by decide +kernel
theorem dX6_lastTick_11 : decode cX6_lastTick 11 = .ok (.aload_n 0, 1) := by decide +kernel
theorem dX6_lastTick_12 : decode cX6_lastTick 12 = .ok (.getfield 9, 3) := by decide +kernel
theorem dX6_lastTick_15 : decode cX6_lastTick 15 = .ok (.aload_n 0, 1) := by decide +kernel
theorem dX6_lastTick_16 : decode cX6_lastTick 16 = .ok (.getfield 24, 3) := by decide +kernel
theorem dX6_lastTick_19 : decode cX6_lastTick 19 = .ok (.iconst 1, 1) := by decide +kernel
theorem dX6_lastTick_20 : decode cX6_lastTick 20 = .ok (.isub, 1) := by decide +kernel
theorem dX6_lastTick_21 : decode cX6_lastTick 21 = .ok (.iaload, 1) := by decide +kernel
theorem dX6_lastTick_22 : decode cX6_lastTick 22 = .ok (.ireturn, 1) := by decide +kernel
theorem dX6_gapOf_0 : decode cX6_gapOf 0 = .ok (.iload_n 1, 1) := by decide +kernel
theorem dX6_gapOf_1 : decode cX6_gapOf 1 = .ok (.ifCond .ne 12, 3) := by decide +kernel
theorem dX6_gapOf_4 : decode cX6_gapOf 4 = .ok (.aload_n 0, 1) := by decide +kernel
theorem dX6_gapOf_5 : decode cX6_gapOf 5 = .ok (.getfield 9, 3) := by decide +kernel
theorem dX6_gapOf_8 : decode cX6_gapOf 8 = .ok (.iconst 0, 1) := by decide +kernel
theorem dX6_gapOf_9 : decode cX6_gapOf 9 = .ok (.iaload, 1) := by decide +kernel
theorem dX6_gapOf_10 : decode cX6_gapOf 10 = .ok (.goto 18, 3) := by decide +kernel
theorem dX6_gapOf_13 : decode cX6_gapOf 13 = .ok (.aload_n 0, 1) := by decide +kernel
theorem dX6_gapOf_14 : decode cX6_gapOf 14 = .ok (.getfield 9, 3) := by decide +kernel
theorem dX6_gapOf_17 : decode cX6_gapOf 17 = .ok (.iload_n 1, 1) := by decide +kernel
theorem dX6_gapOf_18 : decode cX6_gapOf 18 = .ok (.iaload, 1) := by decide +kernel
theorem dX6_gapOf_19 : decode cX6_gapOf 19 = .ok (.aload_n 0, 1) := by decide +kernel
theorem dX6_gapOf_20 : decode cX6_gapOf 20 = .ok (.getfield 9, 3) := by decide +kernel
theorem dX6_gapOf_23 : decode cX6_gapOf 23 = .ok (.iload_n 1, 1) := by decide +kernel
theorem dX6_gapOf_24 : decode cX6_gapOf 24 = .ok (.iconst 1, 1) := by decide +kernel
theorem dX6_gapOf_25 : decode cX6_gapOf 25 = .ok (.isub, 1) := by decide +kernel
theorem dX6_gapOf_26 : decode cX6_gapOf 26 = .ok (.iaload, 1) := by decide +kernel
theorem dX6_gapOf_27 : decode cX6_gapOf 27 = .ok (.isub, 1) := by decide +kernel
theorem dX6_gapOf_28 : decode cX6_gapOf 28 = .ok (.ireturn, 1) := by decide +kernel
theorem dX6_depthOf_0 : decode cX6_depthOf 0 = .ok (.iconst 0, 1) := by decide +kernel
theorem dX6_depthOf_1 : decode cX6_depthOf 1 = .ok (.istore_n 2, 1) := by decide +kernel
theorem dX6_depthOf_2 : decode cX6_depthOf 2 = .ok (.aload_n 0, 1) := by decide +kernel
theorem dX6_depthOf_3 : decode cX6_depthOf 3 = .ok (.getfield 24, 3) := by decide +kernel
theorem dX6_depthOf_6 : decode cX6_depthOf 6 = .ok (.iconst 1, 1) := by decide +kernel
theorem dX6_depthOf_7 : decode cX6_depthOf 7 = .ok (.isub, 1) := by decide +kernel
theorem dX6_depthOf_8 : decode cX6_depthOf 8 = .ok (.istore_n 3, 1) := by decide +kernel
theorem dX6_depthOf_9 : decode cX6_depthOf 9 = .ok (.iload_n 3, 1) := by decide +kernel
theorem dX6_depthOf_10 : decode cX6_depthOf 10 = .ok (.ifCond .lt 35, 3) := by decide +kernel
theorem dX6_depthOf_13 : decode cX6_depthOf 13 = .ok (.aload_n 0, 1) := by decide +kernel
theorem dX6_depthOf_14 : decode cX6_depthOf 14 = .ok (.getfield 15, 3) := by decide +kernel
theorem dX6_depthOf_17 : decode cX6_depthOf 17 = .ok (.iload_n 3, 1) := by decide +kernel
theorem dX6_depthOf_18 : decode cX6_depthOf 18 = .ok (.iaload, 1) := by decide +kernel
theorem dX6_depthOf_19 : decode cX6_depthOf 19 = .ok (.iload_n 1, 1) := by decide +kernel
theorem dX6_depthOf_20 : decode cX6_depthOf 20 = .ok (.if_icmp .ne 8, 3) := by decide +kernel
theorem dX6_depthOf_23 : decode cX6_depthOf 23 = .ok (.iload_n 2, 1) := by decide +kernel
theorem dX6_depthOf_24 : decode cX6_depthOf 24 = .ok (.invokestatic 36, 3) := by decide +kernel
theorem dX6_depthOf_27 : decode cX6_depthOf 27 = .ok (.ireturn, 1) := by decide +kernel
theorem dX6_depthOf_28 : decode cX6_depthOf 28 = .ok (.iload_n 2, 1) := by decide +kernel
theorem dX6_depthOf_29 : decode cX6_depthOf 29 = .ok (.iconst 1, 1) := by decide +kernel
theorem dX6_depthOf_30 : decode cX6_depthOf 30 = .ok (.aload_n 0, 1) := by decide +kernel
theorem dX6_depthOf_31 : decode cX6_depthOf 31 = .ok (.getfield 15, 3) := by decide +kernel
theorem dX6_depthOf_34 : decode cX6_depthOf 34 = .ok (.iload_n 3, 1) := by decide +kernel
theorem dX6_depthOf_35 : decode cX6_depthOf 35 = .ok (.iaload, 1) := by decide +kernel
theorem dX6_depthOf_36 : decode cX6_depthOf 36 = .ok (.ishl, 1) := by decide +kernel
theorem dX6_depthOf_37 : decode cX6_depthOf 37 = .ok (.ior, 1) := by decide +kernel
theorem dX6_depthOf_38 : decode cX6_depthOf 38 = .ok (.istore_n 2, 1) := by decide +kernel
theorem dX6_depthOf_39 : decode cX6_depthOf 39 = .ok (.iinc 3 (-1), 3) := by decide +kernel
theorem dX6_depthOf_42 : decode cX6_depthOf 42 = .ok (.goto (-33), 3) := by decide +kernel
theorem dX6_depthOf_45 : decode cX6_depthOf 45 = .ok (.ldc 41, 2) := by decide +kernel
theorem dX6_depthOf_47 : decode cX6_depthOf 47 = .ok (.ireturn, 1) := by decide +kernel
theorem dX6_namesAsked_0 : decode cX6_namesAsked 0 = .ok (.iconst 0, 1) := by decide +kernel
theorem dX6_namesAsked_1 : decode cX6_namesAsked 1 = .ok (.istore_n 1, 1) := by decide +kernel
theorem dX6_namesAsked_2 : decode cX6_namesAsked 2 = .ok (.iconst 0, 1) := by decide +kernel
theorem dX6_namesAsked_3 : decode cX6_namesAsked 3 = .ok (.istore_n 2, 1) := by decide +kernel
theorem dX6_namesAsked_4 : decode cX6_namesAsked 4 = .ok (.iload_n 2, 1) := by decide +kernel
theorem dX6_namesAsked_5 : decode cX6_namesAsked 5 = .ok (.aload_n 0, 1) := by decide +kernel
theorem dX6_namesAsked_6 : decode cX6_namesAsked 6 = .ok (.getfield 24, 3) := by decide +kernel
theorem dX6_namesAsked_9 : decode cX6_namesAsked 9 = .ok (.if_icmp .ge 20, 3) := by decide +kernel
theorem dX6_namesAsked_12 : decode cX6_namesAsked 12 = .ok (.iload_n 1, 1) := by decide +kernel
theorem dX6_namesAsked_13 : decode cX6_namesAsked 13 = .ok (.iconst 1, 1) := by decide +kernel
theorem dX6_namesAsked_14 : decode cX6_namesAsked 14 = .ok (.aload_n 0, 1) := by decide +kernel
theorem dX6_namesAsked_15 : decode cX6_namesAsked 15 = .ok (.getfield 15, 3) := by decide +kernel
theorem dX6_namesAsked_18 : decode cX6_namesAsked 18 = .ok (.iload_n 2, 1) := by decide +kernel
theorem dX6_namesAsked_19 : decode cX6_namesAsked 19 = .ok (.iaload, 1) := by decide +kernel
theorem dX6_namesAsked_20 : decode cX6_namesAsked 20 = .ok (.ishl, 1) := by decide +kernel
theorem dX6_namesAsked_21 : decode cX6_namesAsked 21 = .ok (.ior, 1) := by decide +kernel
theorem dX6_namesAsked_22 : decode cX6_namesAsked 22 = .ok (.istore_n 1, 1) := by decide +kernel
theorem dX6_namesAsked_23 : decode cX6_namesAsked 23 = .ok (.iinc 2 1, 3) := by decide +kernel
theorem dX6_namesAsked_26 : decode cX6_namesAsked 26 = .ok (.goto (-22), 3) := by decide +kernel
theorem dX6_namesAsked_29 : decode cX6_namesAsked 29 = .ok (.iload_n 1, 1) := by decide +kernel
theorem dX6_namesAsked_30 : decode cX6_namesAsked 30 = .ok (.ireturn, 1) := by decide +kernel
