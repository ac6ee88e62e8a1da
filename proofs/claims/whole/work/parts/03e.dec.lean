theorem dX8_readTelling_0 : decode cX8_readTelling 0 = .ok (.aload_n 0, 1) := by decide +kernel
theorem dX8_readTelling_1 : decode cX8_readTelling 1 = .ok (.invokevirtual 47, 3) := by decide +kernel
theorem dX8_readTelling_4 : decode cX8_readTelling 4 = .ok (.istore_n 1, 1) := by decide +kernel
theorem dX8_readTelling_5 : decode cX8_readTelling 5 = .ok (.iload_n 1, 1) := by decide +kernel
theorem dX8_readTelling_6 : decode cX8_readTelling 6 = .ok (.getstatic 50, 3) := by decide +kernel
theorem dX8_readTelling_9 : decode cX8_readTelling 9 = .ok (.arraylength, 1) := by decide +kernel
theorem dX8_readTelling_10 : decode cX8_readTelling 10 = .ok (.invokestatic 36, 3) := by decide +kernel
theorem dX8_readTelling_13 : decode cX8_readTelling 13 = .ok (.ifCond .ne 5, 3) := by decide +kernel
theorem dX8_readTelling_16 : decode cX8_readTelling 16 = .ok (.iconst 1, 1) := by decide +kernel
theorem dX8_readTelling_17 : decode cX8_readTelling 17 = .ok (.ireturn, 1) := by decide +kernel
theorem dX8_readTelling_18 : decode cX8_readTelling 18 = .ok (.iconst 0, 1) := by decide +kernel
theorem dX8_readTelling_19 : decode cX8_readTelling 19 = .ok (.istore_n 2, 1) := by decide +kernel
theorem dX8_readTelling_20 : decode cX8_readTelling 20 = .ok (.iconst 0, 1) := by decide +kernel
theorem dX8_readTelling_21 : decode cX8_readTelling 21 = .ok (.istore_n 3, 1) := by decide +kernel
theorem dX8_readTelling_22 : decode cX8_readTelling 22 = .ok (.iload_n 3, 1) := by decide +kernel
theorem dX8_readTelling_23 : decode cX8_readTelling 23 = .ok (.getstatic 53, 3) := by decide +kernel
theorem dX8_readTelling_26 : decode cX8_readTelling 26 = .ok (.iload_n 1, 1) := by decide +kernel
theorem dX8_readTelling_27 : decode cX8_readTelling 27 = .ok (.iaload, 1) := by decide +kernel
theorem dX8_readTelling_28 : decode cX8_readTelling 28 = .ok (.if_icmp .ge 42, 3) := by decide +kernel
theorem dX8_readTelling_31 : decode cX8_readTelling 31 = .ok (.aload_n 0, 1) := by decide +kernel
theorem dX8_readTelling_32 : decode cX8_readTelling 32 = .ok (.getstatic 56, 3) := by decide +kernel
theorem dX8_readTelling_35 : decode cX8_readTelling 35 = .ok (.iload_n 1, 1) := by decide +kernel
theorem dX8_readTelling_36 : decode cX8_readTelling 36 = .ok (.iaload, 1) := by decide +kernel
theorem dX8_readTelling_37 : decode cX8_readTelling 37 = .ok (.getstatic 59, 3) := by decide +kernel
theorem dX8_readTelling_40 : decode cX8_readTelling 40 = .ok (.iload_n 1, 1) := by decide +kernel
theorem dX8_readTelling_41 : decode cX8_readTelling 41 = .ok (.iaload, 1) := by decide +kernel
theorem dX8_readTelling_42 : decode cX8_readTelling 42 = .ok (.invokevirtual 62, 3) := by decide +kernel
theorem dX8_readTelling_45 : decode cX8_readTelling 45 = .ok (.istore 4, 2) := by decide +kernel
theorem dX8_readTelling_47 : decode cX8_readTelling 47 = .ok (.iload 4, 2) := by decide +kernel
theorem dX8_readTelling_49 : decode cX8_readTelling 49 = .ok (.ifCond .eq 6, 3) := by decide +kernel
theorem dX8_readTelling_52 : decode cX8_readTelling 52 = .ok (.iload 4, 2) := by decide +kernel
theorem dX8_readTelling_54 : decode cX8_readTelling 54 = .ok (.ireturn, 1) := by decide +kernel
theorem dX8_readTelling_55 : decode cX8_readTelling 55 = .ok (.iload_n 2, 1) := by decide +kernel
theorem dX8_readTelling_56 : decode cX8_readTelling 56 = .ok (.iconst 3, 1) := by decide +kernel
theorem dX8_readTelling_57 : decode cX8_readTelling 57 = .ok (.imul, 1) := by decide +kernel
theorem dX8_readTelling_58 : decode cX8_readTelling 58 = .ok (.aload_n 0, 1) := by decide +kernel
theorem dX8_readTelling_59 : decode cX8_readTelling 59 = .ok (.getfield 33, 3) := by decide +kernel
theorem dX8_readTelling_62 : decode cX8_readTelling 62 = .ok (.iadd, 1) := by decide +kernel
theorem dX8_readTelling_63 : decode cX8_readTelling 63 = .ok (.istore_n 2, 1) := by decide +kernel
theorem dX8_readTelling_64 : decode cX8_readTelling 64 = .ok (.iinc 3 1, 3) := by decide +kernel
theorem dX8_readTelling_67 : decode cX8_readTelling 67 = .ok (.goto (-45), 3) := by decide +kernel
theorem dX8_readTelling_70 : decode cX8_readTelling 70 = .ok (.aload_n 0, 1) := by decide +kernel
theorem dX8_readTelling_71 : decode cX8_readTelling 71 = .ok (.iconst 0, 1) := by decide +kernel
theorem dX8_readTelling_72 : decode cX8_readTelling 72 = .ok (.bipush 99, 2) := by decide +kernel
theorem dX8_readTelling_74 : decode cX8_readTelling 74 = .ok (.invokevirtual 62, 3) := by decide +kernel
theorem dX8_readTelling_77 : decode cX8_readTelling 77 = .ok (.istore_n 3, 1) := by decide +kernel
theorem dX8_readTelling_78 : decode cX8_readTelling 78 = .ok (.iload_n 3, 1) := by decide +kernel
theorem dX8_readTelling_79 : decode cX8_readTelling 79 = .ok (.ifCond .eq 5, 3) := by decide +kernel
theorem dX8_readTelling_82 : decode cX8_readTelling 82 = .ok (.iload_n 3, 1) := by decide +kernel
theorem dX8_readTelling_83 : decode cX8_readTelling 83 = .ok (.ireturn, 1) := by decide +kernel
theorem dX8_readTelling_84 : decode cX8_readTelling 84 = .ok (.aload_n 0, 1) := by decide +kernel
theorem dX8_readTelling_85 : decode cX8_readTelling 85 = .ok (.getfield 33, 3) := by decide +kernel
theorem dX8_readTelling_88 : decode cX8_readTelling 88 = .ok (.istore 4, 2) := by decide +kernel
theorem dX8_readTelling_90 : decode cX8_readTelling 90 = .ok (.aload_n 0, 1) := by decide +kernel
theorem dX8_readTelling_91 : decode cX8_readTelling 91 = .ok (.invokevirtual 40, 3) := by decide +kernel
theorem dX8_readTelling_94 : decode cX8_readTelling 94 = .ok (.aload_n 0, 1) := by decide +kernel
theorem dX8_readTelling_95 : decode cX8_readTelling 95 = .ok (.getfield 30, 3) := by decide +kernel
theorem dX8_readTelling_98 : decode cX8_readTelling 98 = .ok (.iconst 3, 1) := by decide +kernel
theorem dX8_readTelling_99 : decode cX8_readTelling 99 = .ok (.if_icmp .eq 5, 3) := by decide +kernel
theorem dX8_readTelling_102 : decode cX8_readTelling 102 = .ok (.iconst 1, 1) := by decide +kernel
theorem dX8_readTelling_103 : decode cX8_readTelling 103 = .ok (.ireturn, 1) := by decide +kernel
theorem dX8_readTelling_104 : decode cX8_readTelling 104 = .ok (.aload_n 0, 1) := by decide +kernel
theorem dX8_readTelling_105 : decode cX8_readTelling 105 = .ok (.getstatic 50, 3) := by decide +kernel
theorem dX8_readTelling_108 : decode cX8_readTelling 108 = .ok (.iload_n 1, 1) := by decide +kernel
theorem dX8_readTelling_109 : decode cX8_readTelling 109 = .ok (.iaload, 1) := by decide +kernel
theorem dX8_readTelling_110 : decode cX8_readTelling 110 = .ok (.getstatic 53, 3) := by decide +kernel
theorem dX8_readTelling_113 : decode cX8_readTelling 113 = .ok (.iload_n 1, 1) := by decide +kernel
theorem dX8_readTelling_114 : decode cX8_readTelling 114 = .ok (.iaload, 1) := by decide +kernel
theorem dX8_readTelling_115 : decode cX8_readTelling 115 = .ok (.ifCond .ne 8, 3) := by decide +kernel
theorem dX8_readTelling_118 : decode cX8_readTelling 118 = .ok (.bipush 10, 2) := by decide +kernel
theorem dX8_readTelling_120 : decode cX8_readTelling 120 = .ok (.goto 4, 3) := by decide +kernel
theorem dX8_readTelling_123 : decode cX8_readTelling 123 = .ok (.iload_n 2, 1) := by decide +kernel
theorem dX8_readTelling_124 : decode cX8_readTelling 124 = .ok (.iload 4, 2) := by decide +kernel
theorem dX8_readTelling_126 : decode cX8_readTelling 126 = .ok (.invokevirtual 66, 3) := by decide +kernel
theorem dX8_readTelling_129 : decode cX8_readTelling 129 = .ok (.iconst 0, 1) := by decide +kernel
theorem dX8_readTelling_130 : decode cX8_readTelling 130 = .ok (.ireturn, 1) := by decide +kernel
theorem dX8_tell_0 : decode cX8_tell 0 = .ok (.iload_n 1, 1) := by decide +kernel
theorem dX8_tell_1 : decode cX8_tell 1 = .ok (.iconst 4, 1) := by decide +kernel
theorem dX8_tell_2 : decode cX8_tell 2 = .ok (.invokestatic 36, 3) := by decide +kernel
theorem dX8_tell_5 : decode cX8_tell 5 = .ok (.ifCond .eq 21, 3) := by decide +kernel
theorem dX8_tell_8 : decode cX8_tell 8 = .ok (.iload_n 2, 1) := by decide +kernel
theorem dX8_tell_9 : decode cX8_tell 9 = .ok (.bipush 11, 2) := by decide +kernel
theorem dX8_tell_11 : decode cX8_tell 11 = .ok (.invokestatic 36, 3) := by decide +kernel
theorem dX8_tell_14 : decode cX8_tell 14 = .ok (.ifCond .eq 12, 3) := by decide +kernel
theorem dX8_tell_17 : decode cX8_tell 17 = .ok (.aload_n 0, 1) := by decide +kernel
theorem dX8_tell_18 : decode cX8_tell 18 = .ok (.getfield 17, 3) := by decide +kernel
theorem dX8_tell_21 : decode cX8_tell 21 = .ok (.iload_n 1, 1) := by decide +kernel
theorem dX8_tell_22 : decode cX8_tell 22 = .ok (.aaload, 1) := by decide +kernel
theorem dX8_tell_23 : decode cX8_tell 23 = .ok (.iload_n 2, 1) := by decide +kernel
theorem dX8_tell_24 : decode cX8_tell 24 = .ok (.iload_n 3, 1) := by decide +kernel
theorem dX8_tell_25 : decode cX8_tell 25 = .ok (.iastore, 1) := by decide +kernel
theorem dX8_tell_26 : decode cX8_tell 26 = .ok (.return_, 1) := by decide +kernel
theorem dX8_readNumber_0 : decode cX8_readNumber 0 = .ok (.aload_n 0, 1) := by decide +kernel
theorem dX8_readNumber_1 : decode cX8_readNumber 1 = .ok (.invokevirtual 40, 3) := by decide +kernel
theorem dX8_readNumber_4 : decode cX8_readNumber 4 = .ok (.aload_n 0, 1) := by decide +kernel
theorem dX8_readNumber_5 : decode cX8_readNumber 5 = .ok (.getfield 30, 3) := by decide +kernel
theorem dX8_readNumber_8 : decode cX8_readNumber 8 = .ok (.iconst 2, 1) := by decide +kernel
theorem dX8_readNumber_9 : decode cX8_readNumber 9 = .ok (.if_icmp .eq 5, 3) := by decide +kernel
theorem dX8_readNumber_12 : decode cX8_readNumber 12 = .ok (.iconst 1, 1) := by decide +kernel
theorem dX8_readNumber_13 : decode cX8_readNumber 13 = .ok (.ireturn, 1) := by decide +kernel
theorem dX8_readNumber_14 : decode cX8_readNumber 14 = .ok (.aload_n 0, 1) := by decide +kernel
theorem dX8_readNumber_15 : decode cX8_readNumber 15 = .ok (.getfield 33, 3) := by decide +kernel
theorem dX8_readNumber_18 : decode cX8_readNumber 18 = .ok (.iload_n 1, 1) := by decide +kernel
theorem dX8_readNumber_19 : decode cX8_readNumber 19 = .ok (.if_icmp .lt 11, 3) := by decide +kernel
theorem dX8_readNumber_22 : decode cX8_readNumber 22 = .ok (.aload_n 0, 1) := by decide +kernel
theorem dX8_readNumber_23 : decode cX8_readNumber 23 = .ok (.getfield 33, 3) := by decide +kernel
theorem dX8_readNumber_26 : decode cX8_readNumber 26 = .ok (.iload_n 2, 1) := by decide +kernel
theorem dX8_readNumber_27 : decode cX8_readNumber 27 = .ok (.if_icmp .le 7, 3) := by decide +kernel
theorem dX8_readNumber_30 : decode cX8_readNumber 30 = .ok (.iconst 2, 1) := by decide +kernel
theorem dX8_readNumber_31 : decode cX8_readNumber 31 = .ok (.goto 4, 3) := by decide +kernel
theorem dX8_readNumber_34 : decode cX8_readNumber 34 = .ok (.iconst 0, 1) := by decide +kernel
theorem dX8_readNumber_35 : decode cX8_readNumber 35 = .ok (.ireturn, 1) := by decide +kernel
theorem dX8_wordOfToken_0 : decode cX8_wordOfToken 0 = .ok (.aload_n 0, 1) := by decide +kernel
theorem dX8_wordOfToken_1 : decode cX8_wordOfToken 1 = .ok (.getfield 30, 3) := by decide +kernel
theorem dX8_wordOfToken_4 : decode cX8_wordOfToken 4 = .ok (.iconst 1, 1) := by decide +kernel
theorem dX8_wordOfToken_5 : decode cX8_wordOfToken 5 = .ok (.if_icmp .eq 6, 3) := by decide +kernel
theorem dX8_wordOfToken_8 : decode cX8_wordOfToken 8 = .ok (.ldc 70, 2) := by decide +kernel
theorem dX8_wordOfToken_10 : decode cX8_wordOfToken 10 = .ok (.ireturn, 1) := by decide +kernel
theorem dX8_wordOfToken_11 : decode cX8_wordOfToken 11 = .ok (.aload_n 0, 1) := by decide +kernel
theorem dX8_wordOfToken_12 : decode cX8_wordOfToken 12 = .ok (.ldc 71, 2) := by decide +kernel
theorem dX8_wordOfToken_14 : decode cX8_wordOfToken 14 = .ok (.invokevirtual 73, 3) := by decide +kernel
theorem dX8_wordOfToken_17 : decode cX8_wordOfToken 17 = .ok (.ifCond .eq 5, 3) := by decide +kernel
theorem dX8_wordOfToken_20 : decode cX8_wordOfToken 20 = .ok (.iconst 0, 1) := by decide +kernel
theorem dX8_wordOfToken_21 : decode cX8_wordOfToken 21 = .ok (.ireturn, 1) := by decide +kernel
theorem dX8_wordOfToken_22 : decode cX8_wordOfToken 22 = .ok (.aload_n 0, 1) := by decide +kernel
theorem dX8_wordOfToken_23 : decode cX8_wordOfToken 23 = .ok (.ldc 77, 2) := by decide +kernel
theorem dX8_wordOfToken_25 : decode cX8_wordOfToken 25 = .ok (.invokevirtual 73, 3) := by decide +kernel
theorem dX8_wordOfToken_28 : decode cX8_wordOfToken 28 = .ok (.ifCond .eq 5, 3) := by decide +kernel
theorem dX8_wordOfToken_31 : decode cX8_wordOfToken 31 = .ok (.iconst 1, 1) := by decide +kernel
theorem dX8_wordOfToken_32 : decode cX8_wordOfToken 32 = .ok (.ireturn, 1) := by decide +kernel
theorem dX8_wordOfToken_33 : decode cX8_wordOfToken 33 = .ok (.aload_n 0, 1) := by decide +kernel
theorem dX8_wordOfToken_34 : decode cX8_wordOfToken 34 = .ok (.ldc 79, 2) := by decide +kernel
theorem dX8_wordOfToken_36 : decode cX8_wordOfToken 36 = .ok (.invokevirtual 73, 3) := by decide +kernel
theorem dX8_wordOfToken_39 : decode cX8_wordOfToken 39 = .ok (.ifCond .eq 5, 3) := by decide +kernel
theorem dX8_wordOfToken_42 : decode cX8_wordOfToken 42 = .ok (.iconst 2, 1) := by decide +kernel
theorem dX8_wordOfToken_43 : decode cX8_wordOfToken 43 = .ok (.ireturn, 1) := by decide +kernel
theorem dX8_wordOfToken_44 : decode cX8_wordOfToken 44 = .ok (.aload_n 0, 1) := by decide +kernel
theorem dX8_wordOfToken_45 : decode cX8_wordOfToken 45 = .ok (.ldc 81, 2) := by decide +kernel
theorem dX8_wordOfToken_47 : decode cX8_wordOfToken 47 = .ok (.invokevirtual 73, 3) := by decide +kernel
theorem dX8_wordOfToken_50 : decode cX8_wordOfToken 50 = .ok (.ifCond .eq 5, 3) := by decide +kernel
theorem dX8_wordOfToken_53 : decode cX8_wordOfToken 53 = .ok (.iconst 3, 1) := by decide +kernel
theorem dX8_wordOfToken_54 : decode cX8_wordOfToken 54 = .ok (.ireturn, 1) := by decide +kernel
theorem dX8_wordOfToken_55 : decode cX8_wordOfToken 55 = .ok (.aload_n 0, 1) := by decide +kernel
theorem dX8_wordOfToken_56 : decode cX8_wordOfToken 56 = .ok (.ldc 83, 2) := by decide +kernel
theorem dX8_wordOfToken_58 : decode cX8_wordOfToken 58 = .ok (.invokevirtual 73, 3) := by decide +kernel
theorem dX8_wordOfToken_61 : decode cX8_wordOfToken 61 = .ok (.ifCond .eq 7, 3) := by decide +kernel
theorem dX8_wordOfToken_64 : decode cX8_wordOfToken 64 = .ok (.iconst 4, 1) := by decide +kernel
theorem dX8_wordOfToken_65 : decode cX8_wordOfToken 65 = .ok (.goto 5, 3) := by decide +kernel
theorem dX8_wordOfToken_68 : decode cX8_wordOfToken 68 = .ok (.ldc 70, 2) := by decide +kernel
theorem dX8_wordOfToken_70 : decode cX8_wordOfToken 70 = .ok (.ireturn, 1) := by decide +kernel
theorem dX8_isWord_0 : decode cX8_isWord 0 = .ok (.aload_n 0, 1) := by decide +kernel
theorem dX8_isWord_1 : decode cX8_isWord 1 = .ok (.getfield 27, 3) := by decide +kernel
theorem dX8_isWord_4 : decode cX8_isWord 4 = .ok (.aload_n 0, 1) := by decide +kernel
theorem dX8_isWord_5 : decode cX8_isWord 5 = .ok (.getfield 24, 3) := by decide +kernel
theorem dX8_isWord_8 : decode cX8_isWord 8 = .ok (.isub, 1) := by decide +kernel
theorem dX8_isWord_9 : decode cX8_isWord 9 = .ok (.aload_n 1, 1) := by decide +kernel
theorem dX8_isWord_10 : decode cX8_isWord 10 = .ok (.invokevirtual 85, 3) := by decide +kernel
theorem dX8_isWord_13 : decode cX8_isWord 13 = .ok (.if_icmp .eq 5, 3) := by decide +kernel
theorem dX8_isWord_16 : decode cX8_isWord 16 = .ok (.iconst 0, 1) := by decide +kernel
theorem dX8_isWord_17 : decode cX8_isWord 17 = .ok (.ireturn, 1) := by decide +kernel
theorem dX8_isWord_18 : decode cX8_isWord 18 = .ok (.iconst 0, 1) := by decide +kernel
theorem dX8_isWord_19 : decode cX8_isWord 19 = .ok (.istore_n 2, 1) := by decide +kernel
theorem dX8_isWord_20 : decode cX8_isWord 20 = .ok (.iload_n 2, 1) := by decide +kernel
theorem dX8_isWord_21 : decode cX8_isWord 21 = .ok (.aload_n 1, 1) := by decide +kernel
theorem dX8_isWord_22 : decode cX8_isWord 22 = .ok (.invokevirtual 85, 3) := by decide +kernel
theorem dX8_isWord_25 : decode cX8_isWord 25 = .ok (.if_icmp .ge 30, 3) := by decide +kernel
theorem dX8_isWord_28 : decode cX8_isWord 28 = .ok (.aload_n 0, 1) := by decide +kernel
theorem dX8_isWord_29 : decode cX8_isWord 29 = .ok (.getfield 9, 3) := by decide +kernel
theorem dX8_isWord_32 : decode cX8_isWord 32 = .ok (.aload_n 0, 1) := by decide +kernel
theorem dX8_isWord_33 : decode cX8_isWord 33 = .ok (.getfield 24, 3) := by decide +kernel
theorem dX8_isWord_36 : decode cX8_isWord 36 = .ok (.iload_n 2, 1) := by decide +kernel
theorem dX8_isWord_37 : decode cX8_isWord 37 = .ok (.iadd, 1) := by decide +kernel
theorem dX8_isWord_38 : decode cX8_isWord 38 = .ok (.iaload, 1) := by decide +kernel
theorem dX8_isWord_39 : decode cX8_isWord 39 = .ok (.aload_n 1, 1) := by decide +kernel
theorem dX8_isWord_40 : decode cX8_isWord 40 = .ok (.iload_n 2, 1) := by decide +kernel
theorem dX8_isWord_41 : decode cX8_isWord 41 = .ok (.invokevirtual 90, 3) := by decide +kernel
theorem dX8_isWord_44 : decode cX8_isWord 44 = .ok (.if_icmp .eq 5, 3) := by decide +kernel
theorem dX8_isWord_47 : decode cX8_isWord 47 = .ok (.iconst 0, 1) := by decide +kernel
theorem dX8_isWord_48 : decode cX8_isWord 48 = .ok (.ireturn, 1) := by decide +kernel
theorem dX8_isWord_49 : decode cX8_isWord 49 = .ok (.iinc 2 1, 3) := by decide +kernel
theorem dX8_isWord_52 : decode cX8_isWord 52 = .ok (.goto (-32), 3) := by decide +kernel
theorem dX8_isWord_55 : decode cX8_isWord 55 = .ok (.iconst 1, 1) := by decide +kernel
theorem dX8_isWord_56 : decode cX8_isWord 56 = .ok (.ireturn, 1) := by decide +kernel
theorem dX8_nextToken_0 : decode cX8_nextToken 0 = .ok (.aload_n 0, 1) := by decide +kernel
theorem dX8_nextToken_1 : decode cX8_nextToken 1 = .ok (.aload_n 0, 1) := by decide +kernel
theorem dX8_nextToken_2 : decode cX8_nextToken 2 = .ok (.getfield 27, 3) := by decide +kernel
theorem dX8_nextToken_5 : decode cX8_nextToken 5 = .ok (.putfield 24, 3) := by decide +kernel
theorem dX8_nextToken_8 : decode cX8_nextToken 8 = .ok (.aload_n 0, 1) := by decide +kernel
theorem dX8_nextToken_9 : decode cX8_nextToken 9 = .ok (.getfield 24, 3) := by decide +kernel
theorem dX8_nextToken_12 : decode cX8_nextToken 12 = .ok (.aload_n 0, 1) := by decide +kernel
theorem dX8_nextToken_13 : decode cX8_nextToken 13 = .ok (.getfield 20, 3) := by decide +kernel
theorem dX8_nextToken_16 : decode cX8_nextToken 16 = .ok (.if_icmp .ge 44, 3) := by decide +kernel
theorem dX8_nextToken_19 : decode cX8_nextToken 19 = .ok (.aload_n 0, 1) := by decide +kernel
theorem dX8_nextToken_20 : decode cX8_nextToken 20 = .ok (.getfield 9, 3) := by decide +kernel
theorem dX8_nextToken_23 : decode cX8_nextToken 23 = .ok (.aload_n 0, 1) := by decide +kernel
theorem dX8_nextToken_24 : decode cX8_nextToken 24 = .ok (.getfield 24, 3) := by decide +kernel
theorem dX8_nextToken_27 : decode cX8_nextToken 27 = .ok (.iaload, 1) := by decide +kernel
theorem dX8_nextToken_28 : decode cX8_nextToken 28 = .ok (.bipush 32, 2) := by decide +kernel
theorem dX8_nextToken_30 : decode cX8_nextToken 30 = .ok (.if_icmp .eq 17, 3) := by decide +kernel
theorem dX8_nextToken_33 : decode cX8_nextToken 33 = .ok (.aload_n 0, 1) := by decide +kernel
theorem dX8_nextToken_34 : decode cX8_nextToken 34 = .ok (.getfield 9, 3) := by decide +kernel
theorem dX8_nextToken_37 : decode cX8_nextToken 37 = .ok (.aload_n 0, 1) := by decide +kernel
theorem dX8_nextToken_38 : decode cX8_nextToken 38 = .ok (.getfield 24, 3) := by decide +kernel
theorem dX8_nextToken_41 : decode cX8_nextToken 41 = .ok (.iaload, 1) := by decide +kernel
theorem dX8_nextToken_42 : decode cX8_nextToken 42 = .ok (.bipush 10, 2) := by decide +kernel
theorem dX8_nextToken_44 : decode cX8_nextToken 44 = .ok (.if_icmp .ne 16, 3) := by decide +kernel
theorem dX8_nextToken_47 : decode cX8_nextToken 47 = .ok (.aload_n 0, 1) := by decide +kernel
theorem dX8_nextToken_48 : decode cX8_nextToken 48 = .ok (.dup, 1) := by decide +kernel
theorem dX8_nextToken_49 : decode cX8_nextToken 49 = .ok (.getfield 24, 3) := by decide +kernel
theorem dX8_nextToken_52 : decode cX8_nextToken 52 = .ok (.iconst 1, 1) := by decide +kernel
theorem dX8_nextToken_53 : decode cX8_nextToken 53 = .ok (.iadd, 1) := by decide +kernel
theorem dX8_nextToken_54 : decode cX8_nextToken 54 = .ok (.putfield 24, 3) := by decide +kernel
theorem dX8_nextToken_57 : decode cX8_nextToken 57 = .ok (.goto (-49), 3) := by decide +kernel
theorem dX8_nextToken_60 : decode cX8_nextToken 60 = .ok (.aload_n 0, 1) := by decide +kernel
theorem dX8_nextToken_61 : decode cX8_nextToken 61 = .ok (.aload_n 0, 1) := by decide +kernel
theorem dX8_nextToken_62 : decode cX8_nextToken 62 = .ok (.getfield 24, 3) := by decide +kernel
theorem dX8_nextToken_65 : decode cX8_nextToken 65 = .ok (.putfield 27, 3) := by decide +kernel
theorem dX8_nextToken_68 : decode cX8_nextToken 68 = .ok (.aload_n 0, 1) := by decide +kernel
theorem dX8_nextToken_69 : decode cX8_nextToken 69 = .ok (.getfield 24, 3) := by decide +kernel
theorem dX8_nextToken_72 : decode cX8_nextToken 72 = .ok (.aload_n 0, 1) := by decide +kernel
theorem dX8_nextToken_73 : decode cX8_nextToken 73 = .ok (.getfield 20, 3) := by decide +kernel
theorem dX8_nextToken_76 : decode cX8_nextToken 76 = .ok (.if_icmp .lt 11, 3) := by decide +kernel
theorem dX8_nextToken_79 : decode cX8_nextToken 79 = .ok (.aload_n 0, 1) := by decide +kernel
theorem dX8_nextToken_80 : decode cX8_nextToken 80 = .ok (.iconst 0, 1) := by decide +kernel
theorem dX8_nextToken_81 : decode cX8_nextToken 81 = .ok (.putfield 30, 3) := by decide +kernel
theorem dX8_nextToken_84 : decode cX8_nextToken 84 = .ok (.goto 80, 3) := by decide +kernel
theorem dX8_nextToken_87 : decode cX8_nextToken 87 = .ok (.aload_n 0, 1) := by decide +kernel
theorem dX8_nextToken_88 : decode cX8_nextToken 88 = .ok (.getfield 9, 3) := by decide +kernel
theorem dX8_nextToken_91 : decode cX8_nextToken 91 = .ok (.aload_n 0, 1) := by decide +kernel
theorem dX8_nextToken_92 : decode cX8_nextToken 92 = .ok (.getfield 24, 3) := by decide +kernel
theorem dX8_nextToken_95 : decode cX8_nextToken 95 = .ok (.iaload, 1) := by decide +kernel
theorem dX8_nextToken_96 : decode cX8_nextToken 96 = .ok (.invokestatic 94, 3) := by decide +kernel
theorem dX8_nextToken_99 : decode cX8_nextToken 99 = .ok (.ifCond .eq 10, 3) := by decide +kernel
theorem dX8_nextToken_102 : decode cX8_nextToken 102 = .ok (.aload_n 0, 1) := by decide +kernel
theorem dX8_nextToken_103 : decode cX8_nextToken 103 = .ok (.invokevirtual 98, 3) := by decide +kernel
theorem dX8_nextToken_106 : decode cX8_nextToken 106 = .ok (.goto 58, 3) := by decide +kernel
theorem dX8_nextToken_109 : decode cX8_nextToken 109 = .ok (.aload_n 0, 1) := by decide +kernel
theorem dX8_nextToken_110 : decode cX8_nextToken 110 = .ok (.getfield 9, 3) := by decide +kernel
theorem dX8_nextToken_113 : decode cX8_nextToken 113 = .ok (.aload_n 0, 1) := by decide +kernel
theorem dX8_nextToken_114 : decode cX8_nextToken 114 = .ok (.getfield 24, 3) := by decide +kernel
theorem dX8_nextToken_117 : decode cX8_nextToken 117 = .ok (.iaload, 1) := by decide +kernel
theorem dX8_nextToken_118 : decode cX8_nextToken 118 = .ok (.invokestatic 101, 3) := by decide +kernel
theorem dX8_nextToken_121 : decode cX8_nextToken 121 = .ok (.ifCond .eq 10, 3) := by decide +kernel
theorem dX8_nextToken_124 : decode cX8_nextToken 124 = .ok (.aload_n 0, 1) := by decide +kernel
theorem dX8_nextToken_125 : decode cX8_nextToken 125 = .ok (.invokevirtual 104, 3) := by decide +kernel
theorem dX8_nextToken_128 : decode cX8_nextToken 128 = .ok (.goto 36, 3) := by decide +kernel
theorem dX8_nextToken_131 : decode cX8_nextToken 131 = .ok (.aload_n 0, 1) := by decide +kernel
theorem dX8_nextToken_132 : decode cX8_nextToken 132 = .ok (.aload_n 0, 1) := by decide +kernel
theorem dX8_nextToken_133 : decode cX8_nextToken 133 = .ok (.getfield 9, 3) := by decide +kernel
theorem dX8_nextToken_136 : decode cX8_nextToken 136 = .ok (.aload_n 0, 1) := by decide +kernel
theorem dX8_nextToken_137 : decode cX8_nextToken 137 = .ok (.getfield 24, 3) := by decide +kernel
theorem dX8_nextToken_140 : decode cX8_nextToken 140 = .ok (.iaload, 1) := by decide +kernel
theorem dX8_nextToken_141 : decode cX8_nextToken 141 = .ok (.bipush 59, 2) := by decide +kernel
theorem dX8_nextToken_143 : decode cX8_nextToken 143 = .ok (.if_icmp .ne 7, 3) := by decide +kernel
theorem dX8_nextToken_146 : decode cX8_nextToken 146 = .ok (.iconst 3, 1) := by decide +kernel
theorem dX8_nextToken_147 : decode cX8_nextToken 147 = .ok (.goto 4, 3) := by decide +kernel
theorem dX8_nextToken_150 : decode cX8_nextToken 150 = .ok (.iconst 4, 1) := by decide +kernel
theorem dX8_nextToken_151 : decode cX8_nextToken 151 = .ok (.putfield 30, 3) := by decide +kernel
theorem dX8_nextToken_154 : decode cX8_nextToken 154 = .ok (.aload_n 0, 1) := by decide +kernel
theorem dX8_nextToken_155 : decode cX8_nextToken 155 = .ok (.aload_n 0, 1) := by decide +kernel
theorem dX8_nextToken_156 : decode cX8_nextToken 156 = .ok (.getfield 24, 3) := by decide +kernel
theorem dX8_nextToken_159 : decode cX8_nextToken 159 = .ok (.iconst 1, 1) := by decide +kernel
theorem dX8_nextToken_160 : decode cX8_nextToken 160 = .ok (.iadd, 1) := by decide +kernel
theorem dX8_nextToken_161 : decode cX8_nextToken 161 = .ok (.putfield 27, 3) := by decide +kernel
theorem dX8_nextToken_164 : decode cX8_nextToken 164 = .ok (.return_, 1) := by decide +kernel
theorem dX8_takeWord_0 : decode cX8_takeWord 0 = .ok (.aload_n 0, 1) := by decide +kernel
theorem dX8_takeWord_1 : decode cX8_takeWord 1 = .ok (.getfield 27, 3) := by decide +kernel
theorem dX8_takeWord_4 : decode cX8_takeWord 4 = .ok (.aload_n 0, 1) := by decide +kernel
theorem dX8_takeWord_5 : decode cX8_takeWord 5 = .ok (.getfield 20, 3) := by decide +kernel
theorem dX8_takeWord_8 : decode cX8_takeWord 8 = .ok (.if_icmp .ge 31, 3) := by decide +kernel
theorem dX8_takeWord_11 : decode cX8_takeWord 11 = .ok (.aload_n 0, 1) := by decide +kernel
theorem dX8_takeWord_12 : decode cX8_takeWord 12 = .ok (.getfield 9, 3) := by decide +kernel
theorem dX8_takeWord_15 : decode cX8_takeWord 15 = .ok (.aload_n 0, 1) := by decide +kernel
theorem dX8_takeWord_16 : decode cX8_takeWord 16 = .ok (.getfield 27, 3) := by decide +kernel
theorem dX8_takeWord_19 : decode cX8_takeWord 19 = .ok (.iaload, 1) := by decide +kernel
theorem dX8_takeWord_20 : decode cX8_takeWord 20 = .ok (.invokestatic 94, 3) := by decide +kernel
theorem dX8_takeWord_23 : decode cX8_takeWord 23 = .ok (.ifCond .eq 16, 3) := by decide +kernel
theorem dX8_takeWord_26 : decode cX8_takeWord 26 = .ok (.aload_n 0, 1) := by decide +kernel
theorem dX8_takeWord_27 : decode cX8_takeWord 27 = .ok (.dup, 1) := by decide +kernel
theorem dX8_takeWord_28 : decode cX8_takeWord 28 = .ok (.getfield 27, 3) := by decide +kernel
theorem dX8_takeWord_31 : decode cX8_takeWord 31 = .ok (.iconst 1, 1) := by decide +kernel
theorem dX8_takeWord_32 : decode cX8_takeWord 32 = .ok (.iadd, 1) := by decide +kernel
theorem dX8_takeWord_33 : decode cX8_takeWord 33 = .ok (.putfield 27, 3) := by decide +kernel
theorem dX8_takeWord_36 : decode cX8_takeWord 36 = .ok (.goto (-36), 3) := by decide +kernel
theorem dX8_takeWord_39 : decode cX8_takeWord 39 = .ok (.aload_n 0, 1) := by decide +kernel
theorem dX8_takeWord_40 : decode cX8_takeWord 40 = .ok (.iconst 1, 1) := by decide +kernel
theorem dX8_takeWord_41 : decode cX8_takeWord 41 = .ok (.putfield 30, 3) := by decide +kernel
theorem dX8_takeWord_44 : decode cX8_takeWord 44 = .ok (.return_, 1) := by decide +kernel
theorem dX8_takeFigures_0 : decode cX8_takeFigures 0 = .ok (.aload_n 0, 1) := by decide +kernel
theorem dX8_takeFigures_1 : decode cX8_takeFigures 1 = .ok (.iconst 0, 1) := by decide +kernel
theorem dX8_takeFigures_2 : decode cX8_takeFigures 2 = .ok (.putfield 33, 3) := by decide +kernel
theorem dX8_takeFigures_5 : decode cX8_takeFigures 5 = .ok (.aload_n 0, 1) := by decide +kernel
theorem dX8_takeFigures_6 : decode cX8_takeFigures 6 = .ok (.getfield 27, 3) := by decide +kernel
theorem dX8_takeFigures_9 : decode cX8_takeFigures 9 = .ok (.aload_n 0, 1) := by decide +kernel
theorem dX8_takeFigures_10 : decode cX8_takeFigures 10 = .ok (.getfield 20, 3) := by decide +kernel
theorem dX8_takeFigures_13 : decode cX8_takeFigures 13 = .ok (.if_icmp .ge 61, 3) := by decide +kernel
theorem dX8_takeFigures_16 : decode cX8_takeFigures 16 = .ok (.aload_n 0, 1) := by decide +kernel
theorem dX8_takeFigures_17 : decode cX8_takeFigures 17 = .ok (.getfield 9, 3) := by decide +kernel
theorem dX8_takeFigures_20 : decode cX8_takeFigures 20 = .ok (.aload_n 0, 1) := by decide +kernel
theorem dX8_takeFigures_21 : decode cX8_takeFigures 21 = .ok (.getfield 27, 3) := by decide +kernel
theorem dX8_takeFigures_24 : decode cX8_takeFigures 24 = .ok (.iaload, 1) := by decide +kernel
theorem dX8_takeFigures_25 : decode cX8_takeFigures 25 = .ok (.invokestatic 101, 3) := by decide +kernel
theorem dX8_takeFigures_28 : decode cX8_takeFigures 28 = .ok (.ifCond .eq 46, 3) := by decide +kernel
theorem dX8_takeFigures_31 : decode cX8_takeFigures 31 = .ok (.aload_n 0, 1) := by decide +kernel
theorem dX8_takeFigures_32 : decode cX8_takeFigures 32 = .ok (.bipush 10, 2) := by decide +kernel
theorem dX8_takeFigures_34 : decode cX8_takeFigures 34 = .ok (.aload_n 0, 1) := by decide +kernel
theorem dX8_takeFigures_35 : decode cX8_takeFigures 35 = .ok (.getfield 33, 3) := by decide +kernel
theorem dX8_takeFigures_38 : decode cX8_takeFigures 38 = .ok (.imul, 1) := by decide +kernel
theorem dX8_takeFigures_39 : decode cX8_takeFigures 39 = .ok (.aload_n 0, 1) := by decide +kernel
theorem dX8_takeFigures_40 : decode cX8_takeFigures 40 = .ok (.getfield 9, 3) := by decide +kernel
theorem dX8_takeFigures_43 : decode cX8_takeFigures 43 = .ok (.aload_n 0, 1) := by decide +kernel
theorem dX8_takeFigures_44 : decode cX8_takeFigures 44 = .ok (.getfield 27, 3) := by decide +kernel
theorem dX8_takeFigures_47 : decode cX8_takeFigures 47 = .ok (.iaload, 1) := by decide +kernel
theorem dX8_takeFigures_48 : decode cX8_takeFigures 48 = .ok (.iadd, 1) := by decide +kernel
theorem dX8_takeFigures_49 : decode cX8_takeFigures 49 = .ok (.bipush 48, 2) := by decide +kernel
theorem dX8_takeFigures_51 : decode cX8_takeFigures 51 = .ok (.isub, 1) := by decide +kernel
theorem dX8_takeFigures_52 : decode cX8_takeFigures 52 = .ok (.sipush 9999, 3) := by decide +kernel
theorem dX8_takeFigures_55 : decode cX8_takeFigures 55 = .ok (.invokestatic 107, 3) := by decide +kernel
theorem dX8_takeFigures_58 : decode cX8_takeFigures 58 = .ok (.putfield 33, 3) := by decide +kernel
theorem dX8_takeFigures_61 : decode cX8_takeFigures 61 = .ok (.aload_n 0, 1) := by decide +kernel
theorem dX8_takeFigures_62 : decode cX8_takeFigures 62 = .ok (.dup, 1) := by decide +kernel
theorem dX8_takeFigures_63 : decode cX8_takeFigures 63 = .ok (.getfield 27, 3) := by decide +kernel
theorem dX8_takeFigures_66 : decode cX8_takeFigures 66 = .ok (.iconst 1, 1) := by decide +kernel
theorem dX8_takeFigures_67 : decode cX8_takeFigures 67 = .ok (.iadd, 1) := by decide +kernel
theorem dX8_takeFigures_68 : decode cX8_takeFigures 68 = .ok (.putfield 27, 3) := by decide +kernel
theorem dX8_takeFigures_71 : decode cX8_takeFigures 71 = .ok (.goto (-66), 3) := by decide +kernel
theorem dX8_takeFigures_74 : decode cX8_takeFigures 74 = .ok (.aload_n 0, 1) := by decide +kernel
theorem dX8_takeFigures_75 : decode cX8_takeFigures 75 = .ok (.aload_n 0, 1) := by decide +kernel
theorem dX8_takeFigures_76 : decode cX8_takeFigures 76 = .ok (.getfield 27, 3) := by decide +kernel
theorem dX8_takeFigures_79 : decode cX8_takeFigures 79 = .ok (.aload_n 0, 1) := by decide +kernel
theorem dX8_takeFigures_80 : decode cX8_takeFigures 80 = .ok (.getfield 24, 3) := by decide +kernel
theorem dX8_takeFigures_83 : decode cX8_takeFigures 83 = .ok (.isub, 1) := by decide +kernel
theorem dX8_takeFigures_84 : decode cX8_takeFigures 84 = .ok (.iconst 4, 1) := by decide +kernel
theorem dX8_takeFigures_85 : decode cX8_takeFigures 85 = .ok (.if_icmp .le 7, 3) := by decide +kernel
theorem dX8_takeFigures_88 : decode cX8_takeFigures 88 = .ok (.iconst 4, 1) := by decide +kernel
theorem dX8_takeFigures_89 : decode cX8_takeFigures 89 = .ok (.goto 4, 3) := by decide +kernel
theorem dX8_takeFigures_92 : decode cX8_takeFigures 92 = .ok (.iconst 2, 1) := by decide +kernel
theorem dX8_takeFigures_93 : decode cX8_takeFigures 93 = .ok (.putfield 30, 3) := by decide +kernel
theorem dX8_takeFigures_96 : decode cX8_takeFigures 96 = .ok (.return_, 1) := by decide +kernel
theorem dX8_isLetter_0 : decode cX8_isLetter 0 = .ok (.iload_n 0, 1) := by decide +kernel
theorem dX8_isLetter_1 : decode cX8_isLetter 1 = .ok (.bipush 97, 2) := by decide +kernel
theorem dX8_isLetter_3 : decode cX8_isLetter 3 = .ok (.if_icmp .lt 13, 3) := by decide +kernel
theorem dX8_isLetter_6 : decode cX8_isLetter 6 = .ok (.iload_n 0, 1) := by decide +kernel
theorem dX8_isLetter_7 : decode cX8_isLetter 7 = .ok (.bipush 122, 2) := by decide +kernel
theorem dX8_isLetter_9 : decode cX8_isLetter 9 = .ok (.if_icmp .gt 7, 3) := by decide +kernel
theorem dX8_isLetter_12 : decode cX8_isLetter 12 = .ok (.iconst 1, 1) := by decide +kernel
theorem dX8_isLetter_13 : decode cX8_isLetter 13 = .ok (.goto 4, 3) := by decide +kernel
theorem dX8_isLetter_16 : decode cX8_isLetter 16 = .ok (.iconst 0, 1) := by decide +kernel
theorem dX8_isLetter_17 : decode cX8_isLetter 17 = .ok (.ireturn, 1) := by decide +kernel
theorem dX8_isFigure_0 : decode cX8_isFigure 0 = .ok (.iload_n 0, 1) := by decide +kernel
theorem dX8_isFigure_1 : decode cX8_isFigure 1 = .ok (.bipush 48, 2) := by decide +kernel
theorem dX8_isFigure_3 : decode cX8_isFigure 3 = .ok (.if_icmp .lt 13, 3) := by decide +kernel
theorem dX8_isFigure_6 : decode cX8_isFigure 6 = .ok (.iload_n 0, 1) := by decide +kernel
theorem dX8_isFigure_7 : decode cX8_isFigure 7 = .ok (.bipush 57, 2) := by decide +kernel
theorem dX8_isFigure_9 : decode cX8_isFigure 9 = .ok (.if_icmp .gt 7, 3) := by decide +kernel
theorem dX8_isFigure_12 : decode cX8_isFigure 12 = .ok (.iconst 1, 1) := by decide +kernel
theorem dX8_isFigure_13 : decode cX8_isFigure 13 = .ok (.goto 4, 3) := by decide +kernel
theorem dX8_isFigure_16 : decode cX8_isFigure 16 = .ok (.iconst 0, 1) := by decide +kernel
theorem dX8_isFigure_17 : decode cX8_isFigure 17 = .ok (.ireturn, 1) := by decide +kernel
