theorem dX9_worth_0 : decode cX9_worth 0 = .ok (.iload_n 1, 1) := by decide +kernel
theorem dX9_worth_1 : decode cX9_worth 1 = .ok (.iconst 4, 1) := by decide +kernel
theorem dX9_worth_2 : decode cX9_worth 2 = .ok (.invokestatic 96, 3) := by decide +kernel
theorem dX9_worth_5 : decode cX9_worth 5 = .ok (.ifCond .eq 10, 3) := by decide +kernel
theorem dX9_worth_8 : decode cX9_worth 8 = .ok (.iload_n 2, 1) := by decide +kernel
theorem dX9_worth_9 : decode cX9_worth 9 = .ok (.invokestatic 221, 3) := by decide +kernel
theorem dX9_worth_12 : decode cX9_worth 12 = .ok (.ifCond .ne 6, 3) := by decide +kernel
theorem dX9_worth_15 : decode cX9_worth 15 = .ok (.ldc 100, 2) := by decide +kernel
theorem dX9_worth_17 : decode cX9_worth 17 = .ok (.ireturn, 1) := by decide +kernel
theorem dX9_worth_18 : decode cX9_worth 18 = .ok (.aload_n 0, 1) := by decide +kernel
theorem dX9_worth_19 : decode cX9_worth 19 = .ok (.getfield 77, 3) := by decide +kernel
theorem dX9_worth_22 : decode cX9_worth 22 = .ok (.ifCond .ne 6, 3) := by decide +kernel
theorem dX9_worth_25 : decode cX9_worth 25 = .ok (.ldc 241, 2) := by decide +kernel
theorem dX9_worth_27 : decode cX9_worth 27 = .ok (.ireturn, 1) := by decide +kernel
theorem dX9_worth_28 : decode cX9_worth 28 = .ok (.aload_n 0, 1) := by decide +kernel
theorem dX9_worth_29 : decode cX9_worth 29 = .ok (.getfield 45, 3) := by decide +kernel
theorem dX9_worth_32 : decode cX9_worth 32 = .ok (.aload_n 0, 1) := by decide +kernel
theorem dX9_worth_33 : decode cX9_worth 33 = .ok (.getfield 25, 3) := by decide +kernel
theorem dX9_worth_36 : decode cX9_worth 36 = .ok (.aload_n 0, 1) := by decide +kernel
theorem dX9_worth_37 : decode cX9_worth 37 = .ok (.getfield 38, 3) := by decide +kernel
theorem dX9_worth_40 : decode cX9_worth 40 = .ok (.aload_n 0, 1) := by decide +kernel
theorem dX9_worth_41 : decode cX9_worth 41 = .ok (.getfield 81, 3) := by decide +kernel
theorem dX9_worth_44 : decode cX9_worth 44 = .ok (.aload_n 0, 1) := by decide +kernel
theorem dX9_worth_45 : decode cX9_worth 45 = .ok (.getfield 22, 3) := by decide +kernel
theorem dX9_worth_48 : decode cX9_worth 48 = .ok (.getfield 137, 3) := by decide +kernel
theorem dX9_worth_51 : decode cX9_worth 51 = .ok (.iload_n 1, 1) := by decide +kernel
theorem dX9_worth_52 : decode cX9_worth 52 = .ok (.invokevirtual 208, 3) := by decide +kernel
theorem dX9_worth_55 : decode cX9_worth 55 = .ok (.pop, 1) := by decide +kernel
theorem dX9_worth_56 : decode cX9_worth 56 = .ok (.aload_n 0, 1) := by decide +kernel
theorem dX9_worth_57 : decode cX9_worth 57 = .ok (.getfield 59, 3) := by decide +kernel
theorem dX9_worth_60 : decode cX9_worth 60 = .ok (.aload_n 0, 1) := by decide +kernel
theorem dX9_worth_61 : decode cX9_worth 61 = .ok (.getfield 18, 3) := by decide +kernel
theorem dX9_worth_64 : decode cX9_worth 64 = .ok (.aload_n 0, 1) := by decide +kernel
theorem dX9_worth_65 : decode cX9_worth 65 = .ok (.getfield 52, 3) := by decide +kernel
theorem dX9_worth_68 : decode cX9_worth 68 = .ok (.iload_n 2, 1) := by decide +kernel
theorem dX9_worth_69 : decode cX9_worth 69 = .ok (.invokevirtual 233, 3) := by decide +kernel
theorem dX9_worth_72 : decode cX9_worth 72 = .ok (.aload_n 0, 1) := by decide +kernel
theorem dX9_worth_73 : decode cX9_worth 73 = .ok (.getfield 59, 3) := by decide +kernel
theorem dX9_worth_76 : decode cX9_worth 76 = .ok (.aload_n 0, 1) := by decide +kernel
theorem dX9_worth_77 : decode cX9_worth 77 = .ok (.getfield 22, 3) := by decide +kernel
theorem dX9_worth_80 : decode cX9_worth 80 = .ok (.aload_n 0, 1) := by decide +kernel
theorem dX9_worth_81 : decode cX9_worth 81 = .ok (.getfield 52, 3) := by decide +kernel
theorem dX9_worth_84 : decode cX9_worth 84 = .ok (.iload_n 2, 1) := by decide +kernel
theorem dX9_worth_85 : decode cX9_worth 85 = .ok (.invokevirtual 237, 3) := by decide +kernel
theorem dX9_worth_88 : decode cX9_worth 88 = .ok (.istore_n 3, 1) := by decide +kernel
theorem dX9_worth_89 : decode cX9_worth 89 = .ok (.aload_n 0, 1) := by decide +kernel
theorem dX9_worth_90 : decode cX9_worth 90 = .ok (.getfield 59, 3) := by decide +kernel
theorem dX9_worth_93 : decode cX9_worth 93 = .ok (.aload_n 0, 1) := by decide +kernel
theorem dX9_worth_94 : decode cX9_worth 94 = .ok (.getfield 25, 3) := by decide +kernel
theorem dX9_worth_97 : decode cX9_worth 97 = .ok (.aload_n 0, 1) := by decide +kernel
theorem dX9_worth_98 : decode cX9_worth 98 = .ok (.getfield 52, 3) := by decide +kernel
theorem dX9_worth_101 : decode cX9_worth 101 = .ok (.iload_n 2, 1) := by decide +kernel
theorem dX9_worth_102 : decode cX9_worth 102 = .ok (.invokevirtual 237, 3) := by decide +kernel
theorem dX9_worth_105 : decode cX9_worth 105 = .ok (.iload_n 3, 1) := by decide +kernel
theorem dX9_worth_106 : decode cX9_worth 106 = .ok (.iconst (-1), 1) := by decide +kernel
theorem dX9_worth_107 : decode cX9_worth 107 = .ok (.ixor, 1) := by decide +kernel
theorem dX9_worth_108 : decode cX9_worth 108 = .ok (.iand, 1) := by decide +kernel
theorem dX9_worth_109 : decode cX9_worth 109 = .ok (.ireturn, 1) := by decide +kernel
theorem dX9_cost_0 : decode cX9_cost 0 = .ok (.iload_n 1, 1) := by decide +kernel
theorem dX9_cost_1 : decode cX9_cost 1 = .ok (.iconst 4, 1) := by decide +kernel
theorem dX9_cost_2 : decode cX9_cost 2 = .ok (.invokestatic 96, 3) := by decide +kernel
theorem dX9_cost_5 : decode cX9_cost 5 = .ok (.ifCond .ne 6, 3) := by decide +kernel
theorem dX9_cost_8 : decode cX9_cost 8 = .ok (.ldc 100, 2) := by decide +kernel
theorem dX9_cost_10 : decode cX9_cost 10 = .ok (.ireturn, 1) := by decide +kernel
theorem dX9_cost_11 : decode cX9_cost 11 = .ok (.aload_n 0, 1) := by decide +kernel
theorem dX9_cost_12 : decode cX9_cost 12 = .ok (.getfield 18, 3) := by decide +kernel
theorem dX9_cost_15 : decode cX9_cost 15 = .ok (.iload_n 1, 1) := by decide +kernel
theorem dX9_cost_16 : decode cX9_cost 16 = .ok (.aload_n 0, 1) := by decide +kernel
theorem dX9_cost_17 : decode cX9_cost 17 = .ok (.getfield 70, 3) := by decide +kernel
theorem dX9_cost_20 : decode cX9_cost 20 = .ok (.invokevirtual 169, 3) := by decide +kernel
theorem dX9_cost_23 : decode cX9_cost 23 = .ok (.aload_n 0, 1) := by decide +kernel
theorem dX9_cost_24 : decode cX9_cost 24 = .ok (.getfield 38, 3) := by decide +kernel
theorem dX9_cost_27 : decode cX9_cost 27 = .ok (.iload_n 1, 1) := by decide +kernel
theorem dX9_cost_28 : decode cX9_cost 28 = .ok (.ldc 153, 2) := by decide +kernel
theorem dX9_cost_30 : decode cX9_cost 30 = .ok (.invokevirtual 242, 3) := by decide +kernel
theorem dX9_cost_33 : decode cX9_cost 33 = .ok (.aload_n 0, 1) := by decide +kernel
theorem dX9_cost_34 : decode cX9_cost 34 = .ok (.getfield 70, 3) := by decide +kernel
theorem dX9_cost_37 : decode cX9_cost 37 = .ok (.invokestatic 246, 3) := by decide +kernel
theorem dX9_cost_40 : decode cX9_cost 40 = .ok (.ireturn, 1) := by decide +kernel
theorem dX9_best_0 : decode cX9_best 0 = .ok (.iload_n 1, 1) := by decide +kernel
theorem dX9_best_1 : decode cX9_best 1 = .ok (.iconst 2, 1) := by decide +kernel
theorem dX9_best_2 : decode cX9_best 2 = .ok (.invokestatic 96, 3) := by decide +kernel
theorem dX9_best_5 : decode cX9_best 5 = .ok (.ifCond .ne 6, 3) := by decide +kernel
theorem dX9_best_8 : decode cX9_best 8 = .ok (.ldc 100, 2) := by decide +kernel
theorem dX9_best_10 : decode cX9_best 10 = .ok (.ireturn, 1) := by decide +kernel
theorem dX9_best_11 : decode cX9_best 11 = .ok (.aload_n 0, 1) := by decide +kernel
theorem dX9_best_12 : decode cX9_best 12 = .ok (.getfield 18, 3) := by decide +kernel
theorem dX9_best_15 : decode cX9_best 15 = .ok (.getfield 137, 3) := by decide +kernel
theorem dX9_best_18 : decode cX9_best 18 = .ok (.ifCond .ne 6, 3) := by decide +kernel
theorem dX9_best_21 : decode cX9_best 21 = .ok (.ldc 241, 2) := by decide +kernel
theorem dX9_best_23 : decode cX9_best 23 = .ok (.ireturn, 1) := by decide +kernel
theorem dX9_best_24 : decode cX9_best 24 = .ok (.aload_n 0, 1) := by decide +kernel
theorem dX9_best_25 : decode cX9_best 25 = .ok (.getfield 18, 3) := by decide +kernel
theorem dX9_best_28 : decode cX9_best 28 = .ok (.iconst 1, 1) := by decide +kernel
theorem dX9_best_29 : decode cX9_best 29 = .ok (.aload_n 0, 1) := by decide +kernel
theorem dX9_best_30 : decode cX9_best 30 = .ok (.getfield 70, 3) := by decide +kernel
theorem dX9_best_33 : decode cX9_best 33 = .ok (.invokevirtual 169, 3) := by decide +kernel
theorem dX9_best_36 : decode cX9_best 36 = .ok (.ldc 153, 2) := by decide +kernel
theorem dX9_best_38 : decode cX9_best 38 = .ok (.istore_n 2, 1) := by decide +kernel
theorem dX9_best_39 : decode cX9_best 39 = .ok (.ldc 153, 2) := by decide +kernel
theorem dX9_best_41 : decode cX9_best 41 = .ok (.istore_n 3, 1) := by decide +kernel
theorem dX9_best_42 : decode cX9_best 42 = .ok (.iconst 0, 1) := by decide +kernel
theorem dX9_best_43 : decode cX9_best 43 = .ok (.istore 4, 2) := by decide +kernel
theorem dX9_best_45 : decode cX9_best 45 = .ok (.iload 4, 2) := by decide +kernel
theorem dX9_best_47 : decode cX9_best 47 = .ok (.iconst 4, 1) := by decide +kernel
theorem dX9_best_48 : decode cX9_best 48 = .ok (.if_icmp .ge 80, 3) := by decide +kernel
theorem dX9_best_51 : decode cX9_best 51 = .ok (.iconst 1, 1) := by decide +kernel
theorem dX9_best_52 : decode cX9_best 52 = .ok (.istore 5, 2) := by decide +kernel
theorem dX9_best_54 : decode cX9_best 54 = .ok (.iload 5, 2) := by decide +kernel
theorem dX9_best_56 : decode cX9_best 56 = .ok (.bipush 9, 2) := by decide +kernel
theorem dX9_best_58 : decode cX9_best 58 = .ok (.if_icmp .gt 64, 3) := by decide +kernel
theorem dX9_best_61 : decode cX9_best 61 = .ok (.iload 4, 2) := by decide +kernel
theorem dX9_best_63 : decode cX9_best 63 = .ok (.iload 5, 2) := by decide +kernel
theorem dX9_best_65 : decode cX9_best 65 = .ok (.aload_n 0, 1) := by decide +kernel
theorem dX9_best_66 : decode cX9_best 66 = .ok (.getfield 74, 3) := by decide +kernel
theorem dX9_best_69 : decode cX9_best 69 = .ok (.invokestatic 250, 3) := by decide +kernel
theorem dX9_best_72 : decode cX9_best 72 = .ok (.aload_n 0, 1) := by decide +kernel
theorem dX9_best_73 : decode cX9_best 73 = .ok (.getfield 74, 3) := by decide +kernel
theorem dX9_best_76 : decode cX9_best 76 = .ok (.aload_n 0, 1) := by decide +kernel
theorem dX9_best_77 : decode cX9_best 77 = .ok (.getfield 70, 3) := by decide +kernel
theorem dX9_best_80 : decode cX9_best 80 = .ok (.invokestatic 246, 3) := by decide +kernel
theorem dX9_best_83 : decode cX9_best 83 = .ok (.istore 6, 2) := by decide +kernel
theorem dX9_best_85 : decode cX9_best 85 = .ok (.iload 6, 2) := by decide +kernel
theorem dX9_best_87 : decode cX9_best 87 = .ok (.ldc 153, 2) := by decide +kernel
theorem dX9_best_89 : decode cX9_best 89 = .ok (.if_icmp .eq 27, 3) := by decide +kernel
theorem dX9_best_92 : decode cX9_best 92 = .ok (.iload_n 3, 1) := by decide +kernel
theorem dX9_best_93 : decode cX9_best 93 = .ok (.ldc 153, 2) := by decide +kernel
theorem dX9_best_95 : decode cX9_best 95 = .ok (.if_icmp .eq 9, 3) := by decide +kernel
theorem dX9_best_98 : decode cX9_best 98 = .ok (.iload 6, 2) := by decide +kernel
theorem dX9_best_100 : decode cX9_best 100 = .ok (.iload_n 3, 1) := by decide +kernel
theorem dX9_best_101 : decode cX9_best 101 = .ok (.if_icmp .ge 15, 3) := by decide +kernel
theorem dX9_best_104 : decode cX9_best 104 = .ok (.bipush 10, 2) := by decide +kernel
theorem dX9_best_106 : decode cX9_best 106 = .ok (.iload 4, 2) := by decide +kernel
theorem dX9_best_108 : decode cX9_best 108 = .ok (.imul, 1) := by decide +kernel
theorem dX9_best_109 : decode cX9_best 109 = .ok (.iload 5, 2) := by decide +kernel
theorem dX9_best_111 : decode cX9_best 111 = .ok (.iadd, 1) := by decide +kernel
theorem dX9_best_112 : decode cX9_best 112 = .ok (.istore_n 2, 1) := by decide +kernel
theorem dX9_best_113 : decode cX9_best 113 = .ok (.iload 6, 2) := by decide +kernel
theorem dX9_best_115 : decode cX9_best 115 = .ok (.istore_n 3, 1) := by decide +kernel
theorem dX9_best_116 : decode cX9_best 116 = .ok (.iinc 5 1, 3) := by decide +kernel
theorem dX9_best_119 : decode cX9_best 119 = .ok (.goto (-65), 3) := by decide +kernel
theorem dX9_best_122 : decode cX9_best 122 = .ok (.iinc 4 1, 3) := by decide +kernel
theorem dX9_best_125 : decode cX9_best 125 = .ok (.goto (-80), 3) := by decide +kernel
theorem dX9_best_128 : decode cX9_best 128 = .ok (.iload_n 1, 1) := by decide +kernel
theorem dX9_best_129 : decode cX9_best 129 = .ok (.ifCond .ne 7, 3) := by decide +kernel
theorem dX9_best_132 : decode cX9_best 132 = .ok (.iload_n 2, 1) := by decide +kernel
theorem dX9_best_133 : decode cX9_best 133 = .ok (.goto 4, 3) := by decide +kernel
theorem dX9_best_136 : decode cX9_best 136 = .ok (.iload_n 3, 1) := by decide +kernel
theorem dX9_best_137 : decode cX9_best 137 = .ok (.ireturn, 1) := by decide +kernel
theorem dX9_shape_0 : decode cX9_shape 0 = .ok (.iload_n 1, 1) := by decide +kernel
theorem dX9_shape_1 : decode cX9_shape 1 = .ok (.iconst 4, 1) := by decide +kernel
theorem dX9_shape_2 : decode cX9_shape 2 = .ok (.invokestatic 96, 3) := by decide +kernel
theorem dX9_shape_5 : decode cX9_shape 5 = .ok (.ifCond .eq 14, 3) := by decide +kernel
theorem dX9_shape_8 : decode cX9_shape 8 = .ok (.iload_n 2, 1) := by decide +kernel
theorem dX9_shape_9 : decode cX9_shape 9 = .ok (.iconst 1, 1) := by decide +kernel
theorem dX9_shape_10 : decode cX9_shape 10 = .ok (.if_icmp .lt 9, 3) := by decide +kernel
theorem dX9_shape_13 : decode cX9_shape 13 = .ok (.iload_n 2, 1) := by decide +kernel
theorem dX9_shape_14 : decode cX9_shape 14 = .ok (.bipush 9, 2) := by decide +kernel
theorem dX9_shape_16 : decode cX9_shape 16 = .ok (.if_icmp .le 6, 3) := by decide +kernel
theorem dX9_shape_19 : decode cX9_shape 19 = .ok (.ldc 100, 2) := by decide +kernel
theorem dX9_shape_21 : decode cX9_shape 21 = .ok (.ireturn, 1) := by decide +kernel
theorem dX9_shape_22 : decode cX9_shape 22 = .ok (.iload_n 1, 1) := by decide +kernel
theorem dX9_shape_23 : decode cX9_shape 23 = .ok (.iload_n 2, 1) := by decide +kernel
theorem dX9_shape_24 : decode cX9_shape 24 = .ok (.aload_n 0, 1) := by decide +kernel
theorem dX9_shape_25 : decode cX9_shape 25 = .ok (.getfield 38, 3) := by decide +kernel
theorem dX9_shape_28 : decode cX9_shape 28 = .ok (.getfield 177, 3) := by decide +kernel
theorem dX9_shape_31 : decode cX9_shape 31 = .ok (.iconst 1, 1) := by decide +kernel
theorem dX9_shape_32 : decode cX9_shape 32 = .ok (.aaload, 1) := by decide +kernel
theorem dX9_shape_33 : decode cX9_shape 33 = .ok (.invokestatic 250, 3) := by decide +kernel
theorem dX9_shape_36 : decode cX9_shape 36 = .ok (.iconst 1, 1) := by decide +kernel
theorem dX9_shape_37 : decode cX9_shape 37 = .ok (.ireturn, 1) := by decide +kernel
theorem dX9_learn_0 : decode cX9_learn 0 = .ok (.iload_n 1, 1) := by decide +kernel
theorem dX9_learn_1 : decode cX9_learn 1 = .ok (.bipush 10, 2) := by decide +kernel
theorem dX9_learn_3 : decode cX9_learn 3 = .ok (.invokestatic 96, 3) := by decide +kernel
theorem dX9_learn_6 : decode cX9_learn 6 = .ok (.ifCond .eq 12, 3) := by decide +kernel
theorem dX9_learn_9 : decode cX9_learn 9 = .ok (.iload_n 2, 1) := by decide +kernel
theorem dX9_learn_10 : decode cX9_learn 10 = .ok (.bipush 10, 2) := by decide +kernel
theorem dX9_learn_12 : decode cX9_learn 12 = .ok (.invokestatic 96, 3) := by decide +kernel
theorem dX9_learn_15 : decode cX9_learn 15 = .ok (.ifCond .ne 6, 3) := by decide +kernel
theorem dX9_learn_18 : decode cX9_learn 18 = .ok (.ldc 100, 2) := by decide +kernel
theorem dX9_learn_20 : decode cX9_learn 20 = .ok (.ireturn, 1) := by decide +kernel
theorem dX9_learn_21 : decode cX9_learn 21 = .ok (.aload_n 0, 1) := by decide +kernel
theorem dX9_learn_22 : decode cX9_learn 22 = .ok (.getfield 92, 3) := by decide +kernel
theorem dX9_learn_25 : decode cX9_learn 25 = .ok (.bipush 10, 2) := by decide +kernel
theorem dX9_learn_27 : decode cX9_learn 27 = .ok (.iload_n 1, 1) := by decide +kernel
theorem dX9_learn_28 : decode cX9_learn 28 = .ok (.isub, 1) := by decide +kernel
theorem dX9_learn_29 : decode cX9_learn 29 = .ok (.if_icmp .ge 6, 3) := by decide +kernel
theorem dX9_learn_32 : decode cX9_learn 32 = .ok (.ldc 241, 2) := by decide +kernel
theorem dX9_learn_34 : decode cX9_learn 34 = .ok (.ireturn, 1) := by decide +kernel
theorem dX9_learn_35 : decode cX9_learn 35 = .ok (.aload_n 0, 1) := by decide +kernel
theorem dX9_learn_36 : decode cX9_learn 36 = .ok (.dup, 1) := by decide +kernel
theorem dX9_learn_37 : decode cX9_learn 37 = .ok (.getfield 92, 3) := by decide +kernel
theorem dX9_learn_40 : decode cX9_learn 40 = .ok (.bipush 10, 2) := by decide +kernel
theorem dX9_learn_42 : decode cX9_learn 42 = .ok (.iload_n 1, 1) := by decide +kernel
theorem dX9_learn_43 : decode cX9_learn 43 = .ok (.isub, 1) := by decide +kernel
theorem dX9_learn_44 : decode cX9_learn 44 = .ok (.isub, 1) := by decide +kernel
theorem dX9_learn_45 : decode cX9_learn 45 = .ok (.putfield 92, 3) := by decide +kernel
theorem dX9_learn_48 : decode cX9_learn 48 = .ok (.aload_n 0, 1) := by decide +kernel
theorem dX9_learn_49 : decode cX9_learn 49 = .ok (.getfield 18, 3) := by decide +kernel
theorem dX9_learn_52 : decode cX9_learn 52 = .ok (.iconst 1, 1) := by decide +kernel
theorem dX9_learn_53 : decode cX9_learn 53 = .ok (.aload_n 0, 1) := by decide +kernel
theorem dX9_learn_54 : decode cX9_learn 54 = .ok (.getfield 70, 3) := by decide +kernel
theorem dX9_learn_57 : decode cX9_learn 57 = .ok (.invokevirtual 169, 3) := by decide +kernel
theorem dX9_learn_60 : decode cX9_learn 60 = .ok (.aload_n 0, 1) := by decide +kernel
theorem dX9_learn_61 : decode cX9_learn 61 = .ok (.getfield 45, 3) := by decide +kernel
theorem dX9_learn_64 : decode cX9_learn 64 = .ok (.aload_n 0, 1) := by decide +kernel
theorem dX9_learn_65 : decode cX9_learn 65 = .ok (.getfield 38, 3) := by decide +kernel
theorem dX9_learn_68 : decode cX9_learn 68 = .ok (.getfield 177, 3) := by decide +kernel
theorem dX9_learn_71 : decode cX9_learn 71 = .ok (.iconst 1, 1) := by decide +kernel
theorem dX9_learn_72 : decode cX9_learn 72 = .ok (.aaload, 1) := by decide +kernel
theorem dX9_learn_73 : decode cX9_learn 73 = .ok (.aload_n 0, 1) := by decide +kernel
theorem dX9_learn_74 : decode cX9_learn 74 = .ok (.getfield 70, 3) := by decide +kernel
theorem dX9_learn_77 : decode cX9_learn 77 = .ok (.iload_n 1, 1) := by decide +kernel
theorem dX9_learn_78 : decode cX9_learn 78 = .ok (.iload_n 2, 1) := by decide +kernel
theorem dX9_learn_79 : decode cX9_learn 79 = .ok (.lload_n 3, 1) := by decide +kernel
theorem dX9_learn_80 : decode cX9_learn 80 = .ok (.invokevirtual 254, 3) := by decide +kernel
theorem dX9_learn_83 : decode cX9_learn 83 = .ok (.aload_n 0, 1) := by decide +kernel
theorem dX9_learn_84 : decode cX9_learn 84 = .ok (.getfield 92, 3) := by decide +kernel
theorem dX9_learn_87 : decode cX9_learn 87 = .ok (.ireturn, 1) := by decide +kernel
theorem dX9_guess_0 : decode cX9_guess 0 = .ok (.iload_n 1, 1) := by decide +kernel
theorem dX9_guess_1 : decode cX9_guess 1 = .ok (.iconst 5, 1) := by decide +kernel
theorem dX9_guess_2 : decode cX9_guess 2 = .ok (.invokestatic 96, 3) := by decide +kernel
theorem dX9_guess_5 : decode cX9_guess 5 = .ok (.ifCond .eq 21, 3) := by decide +kernel
theorem dX9_guess_8 : decode cX9_guess 8 = .ok (.iload_n 2, 1) := by decide +kernel
theorem dX9_guess_9 : decode cX9_guess 9 = .ok (.iconst 1, 1) := by decide +kernel
theorem dX9_guess_10 : decode cX9_guess 10 = .ok (.if_icmp .lt 16, 3) := by decide +kernel
theorem dX9_guess_13 : decode cX9_guess 13 = .ok (.iload_n 2, 1) := by decide +kernel
theorem dX9_guess_14 : decode cX9_guess 14 = .ok (.iconst 3, 1) := by decide +kernel
theorem dX9_guess_15 : decode cX9_guess 15 = .ok (.if_icmp .gt 11, 3) := by decide +kernel
theorem dX9_guess_18 : decode cX9_guess 18 = .ok (.iload_n 3, 1) := by decide +kernel
theorem dX9_guess_19 : decode cX9_guess 19 = .ok (.iconst 2, 1) := by decide +kernel
theorem dX9_guess_20 : decode cX9_guess 20 = .ok (.invokestatic 96, 3) := by decide +kernel
theorem dX9_guess_23 : decode cX9_guess 23 = .ok (.ifCond .ne 6, 3) := by decide +kernel
theorem dX9_guess_26 : decode cX9_guess 26 = .ok (.ldc 100, 2) := by decide +kernel
theorem dX9_guess_28 : decode cX9_guess 28 = .ok (.ireturn, 1) := by decide +kernel
theorem dX9_guess_29 : decode cX9_guess 29 = .ok (.iconst 1, 1) := by decide +kernel
theorem dX9_guess_30 : decode cX9_guess 30 = .ok (.istore 4, 2) := by decide +kernel
theorem dX9_guess_32 : decode cX9_guess 32 = .ok (.iconst 1, 1) := by decide +kernel
theorem dX9_guess_33 : decode cX9_guess 33 = .ok (.istore 5, 2) := by decide +kernel
theorem dX9_guess_35 : decode cX9_guess 35 = .ok (.iconst 0, 1) := by decide +kernel
theorem dX9_guess_36 : decode cX9_guess 36 = .ok (.istore 6, 2) := by decide +kernel
theorem dX9_guess_38 : decode cX9_guess 38 = .ok (.iload 6, 2) := by decide +kernel
theorem dX9_guess_40 : decode cX9_guess 40 = .ok (.iload_n 2, 1) := by decide +kernel
theorem dX9_guess_41 : decode cX9_guess 41 = .ok (.if_icmp .ge 27, 3) := by decide +kernel
theorem dX9_guess_44 : decode cX9_guess 44 = .ok (.iload 4, 2) := by decide +kernel
theorem dX9_guess_46 : decode cX9_guess 46 = .ok (.iconst 2, 1) := by decide +kernel
theorem dX9_guess_47 : decode cX9_guess 47 = .ok (.iload_n 1, 1) := by decide +kernel
theorem dX9_guess_48 : decode cX9_guess 48 = .ok (.imul, 1) := by decide +kernel
theorem dX9_guess_49 : decode cX9_guess 49 = .ok (.iconst 1, 1) := by decide +kernel
theorem dX9_guess_50 : decode cX9_guess 50 = .ok (.iadd, 1) := by decide +kernel
theorem dX9_guess_51 : decode cX9_guess 51 = .ok (.imul, 1) := by decide +kernel
theorem dX9_guess_52 : decode cX9_guess 52 = .ok (.istore 4, 2) := by decide +kernel
theorem dX9_guess_54 : decode cX9_guess 54 = .ok (.iload 5, 2) := by decide +kernel
theorem dX9_guess_56 : decode cX9_guess 56 = .ok (.iconst 2, 1) := by decide +kernel
theorem dX9_guess_57 : decode cX9_guess 57 = .ok (.iload_n 1, 1) := by decide +kernel
theorem dX9_guess_58 : decode cX9_guess 58 = .ok (.imul, 1) := by decide +kernel
theorem dX9_guess_59 : decode cX9_guess 59 = .ok (.imul, 1) := by decide +kernel
theorem dX9_guess_60 : decode cX9_guess 60 = .ok (.istore 5, 2) := by decide +kernel
theorem dX9_guess_62 : decode cX9_guess 62 = .ok (.iinc 6 1, 3) := by decide +kernel
theorem dX9_guess_65 : decode cX9_guess 65 = .ok (.goto (-27), 3) := by decide +kernel
theorem dX9_guess_68 : decode cX9_guess 68 = .ok (.iconst 2, 1) := by decide +kernel
theorem dX9_guess_69 : decode cX9_guess 69 = .ok (.iload 4, 2) := by decide +kernel
theorem dX9_guess_71 : decode cX9_guess 71 = .ok (.imul, 1) := by decide +kernel
theorem dX9_guess_72 : decode cX9_guess 72 = .ok (.iload 5, 2) := by decide +kernel
theorem dX9_guess_74 : decode cX9_guess 74 = .ok (.isub, 1) := by decide +kernel
theorem dX9_guess_75 : decode cX9_guess 75 = .ok (.istore 6, 2) := by decide +kernel
theorem dX9_guess_77 : decode cX9_guess 77 = .ok (.iconst 2, 1) := by decide +kernel
theorem dX9_guess_78 : decode cX9_guess 78 = .ok (.iload 4, 2) := by decide +kernel
theorem dX9_guess_80 : decode cX9_guess 80 = .ok (.imul, 1) := by decide +kernel
theorem dX9_guess_81 : decode cX9_guess 81 = .ok (.istore 7, 2) := by decide +kernel
theorem dX9_guess_83 : decode cX9_guess 83 = .ok (.iload 6, 2) := by decide +kernel
theorem dX9_guess_85 : decode cX9_guess 85 = .ok (.iload 7, 2) := by decide +kernel
theorem dX9_guess_87 : decode cX9_guess 87 = .ok (.invokestatic 258, 3) := by decide +kernel
theorem dX9_guess_90 : decode cX9_guess 90 = .ok (.istore 8, 2) := by decide +kernel
theorem dX9_guess_92 : decode cX9_guess 92 = .ok (.iload_n 3, 1) := by decide +kernel
theorem dX9_guess_93 : decode cX9_guess 93 = .ok (.ifCond .ne 8, 3) := by decide +kernel
theorem dX9_guess_96 : decode cX9_guess 96 = .ok (.iload 6, 2) := by decide +kernel
theorem dX9_guess_98 : decode cX9_guess 98 = .ok (.goto 5, 3) := by decide +kernel
theorem dX9_guess_101 : decode cX9_guess 101 = .ok (.iload 7, 2) := by decide +kernel
theorem dX9_guess_103 : decode cX9_guess 103 = .ok (.iload 8, 2) := by decide +kernel
theorem dX9_guess_105 : decode cX9_guess 105 = .ok (.idiv, 1) := by decide +kernel
theorem dX9_guess_106 : decode cX9_guess 106 = .ok (.ireturn, 1) := by decide +kernel
theorem dX9_kind_0 : decode cX9_kind 0 = .ok (.iload_n 1, 1) := by decide +kernel
theorem dX9_kind_1 : decode cX9_kind 1 = .ok (.iconst 4, 1) := by decide +kernel
theorem dX9_kind_2 : decode cX9_kind 2 = .ok (.invokestatic 96, 3) := by decide +kernel
theorem dX9_kind_5 : decode cX9_kind 5 = .ok (.ifCond .ne 6, 3) := by decide +kernel
theorem dX9_kind_8 : decode cX9_kind 8 = .ok (.ldc 100, 2) := by decide +kernel
theorem dX9_kind_10 : decode cX9_kind 10 = .ok (.ireturn, 1) := by decide +kernel
theorem dX9_kind_11 : decode cX9_kind 11 = .ok (.aload_n 0, 1) := by decide +kernel
theorem dX9_kind_12 : decode cX9_kind 12 = .ok (.getfield 38, 3) := by decide +kernel
theorem dX9_kind_15 : decode cX9_kind 15 = .ok (.iload_n 1, 1) := by decide +kernel
theorem dX9_kind_16 : decode cX9_kind 16 = .ok (.invokevirtual 261, 3) := by decide +kernel
theorem dX9_kind_19 : decode cX9_kind 19 = .ok (.ireturn, 1) := by decide +kernel
theorem dX9_as_0 : decode cX9_as 0 = .ok (.iload_n 1, 1) := by decide +kernel
theorem dX9_as_1 : decode cX9_as 1 = .ok (.iconst 4, 1) := by decide +kernel
theorem dX9_as_2 : decode cX9_as 2 = .ok (.invokestatic 96, 3) := by decide +kernel
theorem dX9_as_5 : decode cX9_as 5 = .ok (.ifCond .eq 12, 3) := by decide +kernel
theorem dX9_as_8 : decode cX9_as 8 = .ok (.iload_n 2, 1) := by decide +kernel
theorem dX9_as_9 : decode cX9_as 9 = .ok (.bipush 6, 2) := by decide +kernel
theorem dX9_as_11 : decode cX9_as 11 = .ok (.invokestatic 96, 3) := by decide +kernel
theorem dX9_as_14 : decode cX9_as 14 = .ok (.ifCond .ne 6, 3) := by decide +kernel
theorem dX9_as_17 : decode cX9_as 17 = .ok (.ldc 100, 2) := by decide +kernel
theorem dX9_as_19 : decode cX9_as 19 = .ok (.ireturn, 1) := by decide +kernel
theorem dX9_as_20 : decode cX9_as 20 = .ok (.aload_n 0, 1) := by decide +kernel
theorem dX9_as_21 : decode cX9_as 21 = .ok (.getfield 38, 3) := by decide +kernel
theorem dX9_as_24 : decode cX9_as 24 = .ok (.iload_n 1, 1) := by decide +kernel
theorem dX9_as_25 : decode cX9_as 25 = .ok (.invokevirtual 261, 3) := by decide +kernel
theorem dX9_as_28 : decode cX9_as 28 = .ok (.iload_n 2, 1) := by decide +kernel
theorem dX9_as_29 : decode cX9_as 29 = .ok (.invokestatic 264, 3) := by decide +kernel
theorem dX9_as_32 : decode cX9_as 32 = .ok (.ifCond .ne 9, 3) := by decide +kernel
theorem dX9_as_35 : decode cX9_as 35 = .ok (.aload_n 0, 1) := by decide +kernel
theorem dX9_as_36 : decode cX9_as 36 = .ok (.iconst 3, 1) := by decide +kernel
theorem dX9_as_37 : decode cX9_as 37 = .ok (.invokevirtual 101, 3) := by decide +kernel
theorem dX9_as_40 : decode cX9_as 40 = .ok (.ireturn, 1) := by decide +kernel
theorem dX9_as_41 : decode cX9_as 41 = .ok (.aload_n 0, 1) := by decide +kernel
theorem dX9_as_42 : decode cX9_as 42 = .ok (.iload_n 1, 1) := by decide +kernel
theorem dX9_as_43 : decode cX9_as 43 = .ok (.invokevirtual 109, 3) := by decide +kernel
theorem dX9_as_46 : decode cX9_as 46 = .ok (.ireturn, 1) := by decide +kernel
theorem dX9_ask_0 : decode cX9_ask 0 = .ok (.iload_n 1, 1) := by decide +kernel
theorem dX9_ask_1 : decode cX9_ask 1 = .ok (.iconst 4, 1) := by decide +kernel
theorem dX9_ask_2 : decode cX9_ask 2 = .ok (.invokestatic 96, 3) := by decide +kernel
theorem dX9_ask_5 : decode cX9_ask 5 = .ok (.ifCond .eq 11, 3) := by decide +kernel
theorem dX9_ask_8 : decode cX9_ask 8 = .ok (.iload_n 2, 1) := by decide +kernel
theorem dX9_ask_9 : decode cX9_ask 9 = .ok (.iconst 2, 1) := by decide +kernel
theorem dX9_ask_10 : decode cX9_ask 10 = .ok (.invokestatic 96, 3) := by decide +kernel
theorem dX9_ask_13 : decode cX9_ask 13 = .ok (.ifCond .ne 6, 3) := by decide +kernel
theorem dX9_ask_16 : decode cX9_ask 16 = .ok (.ldc 100, 2) := by decide +kernel
theorem dX9_ask_18 : decode cX9_ask 18 = .ok (.ireturn, 1) := by decide +kernel
theorem dX9_ask_19 : decode cX9_ask 19 = .ok (.aload_n 0, 1) := by decide +kernel
theorem dX9_ask_20 : decode cX9_ask 20 = .ok (.getfield 66, 3) := by decide +kernel
theorem dX9_ask_23 : decode cX9_ask 23 = .ok (.iload_n 1, 1) := by decide +kernel
theorem dX9_ask_24 : decode cX9_ask 24 = .ok (.aload_n 0, 1) := by decide +kernel
theorem dX9_ask_25 : decode cX9_ask 25 = .ok (.getfield 38, 3) := by decide +kernel
theorem dX9_ask_28 : decode cX9_ask 28 = .ok (.aload_n 0, 1) := by decide +kernel
theorem dX9_ask_29 : decode cX9_ask 29 = .ok (.getfield 18, 3) := by decide +kernel
theorem dX9_ask_32 : decode cX9_ask 32 = .ok (.getfield 137, 3) := by decide +kernel
theorem dX9_ask_35 : decode cX9_ask 35 = .ok (.invokevirtual 267, 3) := by decide +kernel
theorem dX9_ask_38 : decode cX9_ask 38 = .ok (.iload_n 2, 1) := by decide +kernel
theorem dX9_ask_39 : decode cX9_ask 39 = .ok (.ifCond .ne 13, 3) := by decide +kernel
theorem dX9_ask_42 : decode cX9_ask 42 = .ok (.aload_n 0, 1) := by decide +kernel
theorem dX9_ask_43 : decode cX9_ask 43 = .ok (.getfield 66, 3) := by decide +kernel
theorem dX9_ask_46 : decode cX9_ask 46 = .ok (.invokevirtual 270, 3) := by decide +kernel
theorem dX9_ask_49 : decode cX9_ask 49 = .ok (.goto 10, 3) := by decide +kernel
theorem dX9_ask_52 : decode cX9_ask 52 = .ok (.aload_n 0, 1) := by decide +kernel
theorem dX9_ask_53 : decode cX9_ask 53 = .ok (.getfield 66, 3) := by decide +kernel
theorem dX9_ask_56 : decode cX9_ask 56 = .ok (.invokevirtual 273, 3) := by decide +kernel
theorem dX9_ask_59 : decode cX9_ask 59 = .ok (.ireturn, 1) := by decide +kernel
theorem dX9_trace_0 : decode cX9_trace 0 = .ok (.iload_n 1, 1) := by decide +kernel
theorem dX9_trace_1 : decode cX9_trace 1 = .ok (.aload_n 0, 1) := by decide +kernel
theorem dX9_trace_2 : decode cX9_trace 2 = .ok (.getfield 66, 3) := by decide +kernel
theorem dX9_trace_5 : decode cX9_trace 5 = .ok (.getfield 276, 3) := by decide +kernel
theorem dX9_trace_8 : decode cX9_trace 8 = .ok (.invokestatic 96, 3) := by decide +kernel
theorem dX9_trace_11 : decode cX9_trace 11 = .ok (.ifCond .eq 15, 3) := by decide +kernel
theorem dX9_trace_14 : decode cX9_trace 14 = .ok (.aload_n 0, 1) := by decide +kernel
theorem dX9_trace_15 : decode cX9_trace 15 = .ok (.getfield 66, 3) := by decide +kernel
theorem dX9_trace_18 : decode cX9_trace 18 = .ok (.getfield 279, 3) := by decide +kernel
theorem dX9_trace_21 : decode cX9_trace 21 = .ok (.iload_n 1, 1) := by decide +kernel
theorem dX9_trace_22 : decode cX9_trace 22 = .ok (.iaload, 1) := by decide +kernel
theorem dX9_trace_23 : decode cX9_trace 23 = .ok (.goto 5, 3) := by decide +kernel
theorem dX9_trace_26 : decode cX9_trace 26 = .ok (.ldc 153, 2) := by decide +kernel
theorem dX9_trace_28 : decode cX9_trace 28 = .ok (.ireturn, 1) := by decide +kernel
