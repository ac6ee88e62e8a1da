theorem dX10_model_0 : decode cX10_model 0 = .ok (.aload_n 0, 1) := by decide +kernel
theorem dX10_model_1 : decode cX10_model 1 = .ok (.iconst 0, 1) := by decide +kernel
theorem dX10_model_2 : decode cX10_model 2 = .ok (.putfield 78, 3) := by decide +kernel
theorem dX10_model_5 : decode cX10_model 5 = .ok (.aload_n 0, 1) := by decide +kernel
theorem dX10_model_6 : decode cX10_model 6 = .ok (.aload_n 0, 1) := by decide +kernel
theorem dX10_model_7 : decode cX10_model 7 = .ok (.getfield 132, 3) := by decide +kernel
theorem dX10_model_10 : decode cX10_model 10 = .ok (.putfield 137, 3) := by decide +kernel
theorem dX10_model_13 : decode cX10_model 13 = .ok (.aload_n 0, 1) := by decide +kernel
theorem dX10_model_14 : decode cX10_model 14 = .ok (.iconst 0, 1) := by decide +kernel
theorem dX10_model_15 : decode cX10_model 15 = .ok (.putfield 132, 3) := by decide +kernel
theorem dX10_model_18 : decode cX10_model 18 = .ok (.aload_n 0, 1) := by decide +kernel
theorem dX10_model_19 : decode cX10_model 19 = .ok (.iconst 0, 1) := by decide +kernel
theorem dX10_model_20 : decode cX10_model 20 = .ok (.putfield 140, 3) := by decide +kernel
theorem dX10_model_23 : decode cX10_model 23 = .ok (.aload_n 0, 1) := by decide +kernel
theorem dX10_model_24 : decode cX10_model 24 = .ok (.iconst 0, 1) := by decide +kernel
theorem dX10_model_25 : decode cX10_model 25 = .ok (.putfield 161, 3) := by decide +kernel
theorem dX10_model_28 : decode cX10_model 28 = .ok (.iconst 0, 1) := by decide +kernel
theorem dX10_model_29 : decode cX10_model 29 = .ok (.istore_n 1, 1) := by decide +kernel
theorem dX10_model_30 : decode cX10_model 30 = .ok (.iload_n 1, 1) := by decide +kernel
theorem dX10_model_31 : decode cX10_model 31 = .ok (.bipush 49, 2) := by decide +kernel
theorem dX10_model_33 : decode cX10_model 33 = .ok (.if_icmp .ge 21, 3) := by decide +kernel
theorem dX10_model_36 : decode cX10_model 36 = .ok (.aload_n 0, 1) := by decide +kernel
theorem dX10_model_37 : decode cX10_model 37 = .ok (.getfield 34, 3) := by decide +kernel
theorem dX10_model_40 : decode cX10_model 40 = .ok (.iload_n 1, 1) := by decide +kernel
theorem dX10_model_41 : decode cX10_model 41 = .ok (.aload_n 0, 1) := by decide +kernel
theorem dX10_model_42 : decode cX10_model 42 = .ok (.getfield 31, 3) := by decide +kernel
theorem dX10_model_45 : decode cX10_model 45 = .ok (.iload_n 1, 1) := by decide +kernel
theorem dX10_model_46 : decode cX10_model 46 = .ok (.iaload, 1) := by decide +kernel
theorem dX10_model_47 : decode cX10_model 47 = .ok (.iastore, 1) := by decide +kernel
theorem dX10_model_48 : decode cX10_model 48 = .ok (.iinc 1 1, 3) := by decide +kernel
theorem dX10_model_51 : decode cX10_model 51 = .ok (.goto (-21), 3) := by decide +kernel
theorem dX10_model_54 : decode cX10_model 54 = .ok (.aload_n 0, 1) := by decide +kernel
theorem dX10_model_55 : decode cX10_model 55 = .ok (.invokevirtual 171, 3) := by decide +kernel
theorem dX10_model_58 : decode cX10_model 58 = .ok (.aload_n 0, 1) := by decide +kernel
theorem dX10_model_59 : decode cX10_model 59 = .ok (.getfield 161, 3) := by decide +kernel
theorem dX10_model_62 : decode cX10_model 62 = .ok (.ifCond .ne 18, 3) := by decide +kernel
theorem dX10_model_65 : decode cX10_model 65 = .ok (.aload_n 0, 1) := by decide +kernel
theorem dX10_model_66 : decode cX10_model 66 = .ok (.getfield 149, 3) := by decide +kernel
theorem dX10_model_69 : decode cX10_model 69 = .ok (.iconst 1, 1) := by decide +kernel
theorem dX10_model_70 : decode cX10_model 70 = .ok (.if_icmp .eq 10, 3) := by decide +kernel
theorem dX10_model_73 : decode cX10_model 73 = .ok (.aload_n 0, 1) := by decide +kernel
theorem dX10_model_74 : decode cX10_model 74 = .ok (.invokevirtual 195, 3) := by decide +kernel
theorem dX10_model_77 : decode cX10_model 77 = .ok (.goto (-19), 3) := by decide +kernel
theorem dX10_model_80 : decode cX10_model 80 = .ok (.aload_n 0, 1) := by decide +kernel
theorem dX10_model_81 : decode cX10_model 81 = .ok (.getfield 161, 3) := by decide +kernel
theorem dX10_model_84 : decode cX10_model 84 = .ok (.ifCond .le 19, 3) := by decide +kernel
theorem dX10_model_87 : decode cX10_model 87 = .ok (.aload_n 0, 1) := by decide +kernel
theorem dX10_model_88 : decode cX10_model 88 = .ok (.aload_n 0, 1) := by decide +kernel
theorem dX10_model_89 : decode cX10_model 89 = .ok (.getfield 161, 3) := by decide +kernel
theorem dX10_model_92 : decode cX10_model 92 = .ok (.putfield 198, 3) := by decide +kernel
theorem dX10_model_95 : decode cX10_model 95 = .ok (.ldc 201, 2) := by decide +kernel
theorem dX10_model_97 : decode cX10_model 97 = .ok (.aload_n 0, 1) := by decide +kernel
theorem dX10_model_98 : decode cX10_model 98 = .ok (.getfield 164, 3) := by decide +kernel
theorem dX10_model_101 : decode cX10_model 101 = .ok (.isub, 1) := by decide +kernel
theorem dX10_model_102 : decode cX10_model 102 = .ok (.ireturn, 1) := by decide +kernel
theorem dX10_model_103 : decode cX10_model 103 = .ok (.iconst 0, 1) := by decide +kernel
theorem dX10_model_104 : decode cX10_model 104 = .ok (.istore_n 1, 1) := by decide +kernel
theorem dX10_model_105 : decode cX10_model 105 = .ok (.iconst 0, 1) := by decide +kernel
theorem dX10_model_106 : decode cX10_model 106 = .ok (.istore_n 2, 1) := by decide +kernel
theorem dX10_model_107 : decode cX10_model 107 = .ok (.iload_n 2, 1) := by decide +kernel
theorem dX10_model_108 : decode cX10_model 108 = .ok (.bipush 49, 2) := by decide +kernel
theorem dX10_model_110 : decode cX10_model 110 = .ok (.if_icmp .ge 38, 3) := by decide +kernel
theorem dX10_model_113 : decode cX10_model 113 = .ok (.aload_n 0, 1) := by decide +kernel
theorem dX10_model_114 : decode cX10_model 114 = .ok (.getfield 31, 3) := by decide +kernel
theorem dX10_model_117 : decode cX10_model 117 = .ok (.iload_n 2, 1) := by decide +kernel
theorem dX10_model_118 : decode cX10_model 118 = .ok (.aload_n 0, 1) := by decide +kernel
theorem dX10_model_119 : decode cX10_model 119 = .ok (.getfield 34, 3) := by decide +kernel
theorem dX10_model_122 : decode cX10_model 122 = .ok (.iload_n 2, 1) := by decide +kernel
theorem dX10_model_123 : decode cX10_model 123 = .ok (.iaload, 1) := by decide +kernel
theorem dX10_model_124 : decode cX10_model 124 = .ok (.iastore, 1) := by decide +kernel
theorem dX10_model_125 : decode cX10_model 125 = .ok (.iload_n 1, 1) := by decide +kernel
theorem dX10_model_126 : decode cX10_model 126 = .ok (.aload_n 0, 1) := by decide +kernel
theorem dX10_model_127 : decode cX10_model 127 = .ok (.getfield 31, 3) := by decide +kernel
theorem dX10_model_130 : decode cX10_model 130 = .ok (.iload_n 2, 1) := by decide +kernel
theorem dX10_model_131 : decode cX10_model 131 = .ok (.iaload, 1) := by decide +kernel
theorem dX10_model_132 : decode cX10_model 132 = .ok (.ifCond .le 7, 3) := by decide +kernel
theorem dX10_model_135 : decode cX10_model 135 = .ok (.iconst 1, 1) := by decide +kernel
theorem dX10_model_136 : decode cX10_model 136 = .ok (.goto 4, 3) := by decide +kernel
theorem dX10_model_139 : decode cX10_model 139 = .ok (.iconst 0, 1) := by decide +kernel
theorem dX10_model_140 : decode cX10_model 140 = .ok (.iadd, 1) := by decide +kernel
theorem dX10_model_141 : decode cX10_model 141 = .ok (.istore_n 1, 1) := by decide +kernel
theorem dX10_model_142 : decode cX10_model 142 = .ok (.iinc 2 1, 3) := by decide +kernel
theorem dX10_model_145 : decode cX10_model 145 = .ok (.goto (-38), 3) := by decide +kernel
theorem dX10_model_148 : decode cX10_model 148 = .ok (.iload_n 1, 1) := by decide +kernel
theorem dX10_model_149 : decode cX10_model 149 = .ok (.ireturn, 1) := by decide +kernel
theorem dX10_fault_0 : decode cX10_fault 0 = .ok (.aload_n 0, 1) := by decide +kernel
theorem dX10_fault_1 : decode cX10_fault 1 = .ok (.iconst 0, 1) := by decide +kernel
theorem dX10_fault_2 : decode cX10_fault 2 = .ok (.putfield 78, 3) := by decide +kernel
theorem dX10_fault_5 : decode cX10_fault 5 = .ok (.aload_n 0, 1) := by decide +kernel
theorem dX10_fault_6 : decode cX10_fault 6 = .ok (.getfield 198, 3) := by decide +kernel
theorem dX10_fault_9 : decode cX10_fault 9 = .ok (.ireturn, 1) := by decide +kernel
theorem dX10_weight_0 : decode cX10_weight 0 = .ok (.aload_n 0, 1) := by decide +kernel
theorem dX10_weight_1 : decode cX10_weight 1 = .ok (.iconst 0, 1) := by decide +kernel
theorem dX10_weight_2 : decode cX10_weight 2 = .ok (.putfield 78, 3) := by decide +kernel
theorem dX10_weight_5 : decode cX10_weight 5 = .ok (.iload_n 1, 1) := by decide +kernel
theorem dX10_weight_6 : decode cX10_weight 6 = .ok (.invokestatic 202, 3) := by decide +kernel
theorem dX10_weight_9 : decode cX10_weight 9 = .ok (.ifCond .ne 6, 3) := by decide +kernel
theorem dX10_weight_12 : decode cX10_weight 12 = .ok (.ldc 97, 2) := by decide +kernel
theorem dX10_weight_14 : decode cX10_weight 14 = .ok (.ireturn, 1) := by decide +kernel
theorem dX10_weight_15 : decode cX10_weight 15 = .ok (.iload_n 1, 1) := by decide +kernel
theorem dX10_weight_16 : decode cX10_weight 16 = .ok (.iconst 2, 1) := by decide +kernel
theorem dX10_weight_17 : decode cX10_weight 17 = .ok (.if_icmp .ne 8, 3) := by decide +kernel
theorem dX10_weight_20 : decode cX10_weight 20 = .ok (.bipush 30, 2) := by decide +kernel
theorem dX10_weight_22 : decode cX10_weight 22 = .ok (.goto 7, 3) := by decide +kernel
theorem dX10_weight_25 : decode cX10_weight 25 = .ok (.iload_n 1, 1) := by decide +kernel
theorem dX10_weight_26 : decode cX10_weight 26 = .ok (.invokestatic 205, 3) := by decide +kernel
theorem dX10_weight_29 : decode cX10_weight 29 = .ok (.iload_n 2, 1) := by decide +kernel
theorem dX10_weight_30 : decode cX10_weight 30 = .ok (.iadd, 1) := by decide +kernel
theorem dX10_weight_31 : decode cX10_weight 31 = .ok (.istore_n 3, 1) := by decide +kernel
theorem dX10_weight_32 : decode cX10_weight 32 = .ok (.iload_n 2, 1) := by decide +kernel
theorem dX10_weight_33 : decode cX10_weight 33 = .ok (.i2l, 1) := by decide +kernel
theorem dX10_weight_34 : decode cX10_weight 34 = .ok (.iload_n 1, 1) := by decide +kernel
theorem dX10_weight_35 : decode cX10_weight 35 = .ok (.iconst 2, 1) := by decide +kernel
theorem dX10_weight_36 : decode cX10_weight 36 = .ok (.if_icmp .ne 7, 3) := by decide +kernel
theorem dX10_weight_39 : decode cX10_weight 39 = .ok (.lconst 1, 1) := by decide +kernel
theorem dX10_weight_40 : decode cX10_weight 40 = .ok (.goto 4, 3) := by decide +kernel
theorem dX10_weight_43 : decode cX10_weight 43 = .ok (.lconst 0, 1) := by decide +kernel
theorem dX10_weight_44 : decode cX10_weight 44 = .ok (.ldc2_w 123, 3) := by decide +kernel
theorem dX10_weight_47 : decode cX10_weight 47 = .ok (.invokestatic 87, 3) := by decide +kernel
theorem dX10_weight_50 : decode cX10_weight 50 = .ok (.ifCond .eq 20, 3) := by decide +kernel
theorem dX10_weight_53 : decode cX10_weight 53 = .ok (.iload_n 3, 1) := by decide +kernel
theorem dX10_weight_54 : decode cX10_weight 54 = .ok (.iload_n 1, 1) := by decide +kernel
theorem dX10_weight_55 : decode cX10_weight 55 = .ok (.invokestatic 208, 3) := by decide +kernel
theorem dX10_weight_58 : decode cX10_weight 58 = .ok (.if_icmp .gt 12, 3) := by decide +kernel
theorem dX10_weight_61 : decode cX10_weight 61 = .ok (.aload_n 0, 1) := by decide +kernel
theorem dX10_weight_62 : decode cX10_weight 62 = .ok (.getfield 31, 3) := by decide +kernel
theorem dX10_weight_65 : decode cX10_weight 65 = .ok (.iload_n 3, 1) := by decide +kernel
theorem dX10_weight_66 : decode cX10_weight 66 = .ok (.iaload, 1) := by decide +kernel
theorem dX10_weight_67 : decode cX10_weight 67 = .ok (.goto 5, 3) := by decide +kernel
theorem dX10_weight_70 : decode cX10_weight 70 = .ok (.ldc 97, 2) := by decide +kernel
theorem dX10_weight_72 : decode cX10_weight 72 = .ok (.ireturn, 1) := by decide +kernel
theorem dX10_leave_0 : decode cX10_leave 0 = .ok (.aload_n 0, 1) := by decide +kernel
theorem dX10_leave_1 : decode cX10_leave 1 = .ok (.iconst 0, 1) := by decide +kernel
theorem dX10_leave_2 : decode cX10_leave 2 = .ok (.putfield 78, 3) := by decide +kernel
theorem dX10_leave_5 : decode cX10_leave 5 = .ok (.iload_n 1, 1) := by decide +kernel
theorem dX10_leave_6 : decode cX10_leave 6 = .ok (.invokestatic 202, 3) := by decide +kernel
theorem dX10_leave_9 : decode cX10_leave 9 = .ok (.ifCond .eq 13, 3) := by decide +kernel
theorem dX10_leave_12 : decode cX10_leave 12 = .ok (.iload_n 2, 1) := by decide +kernel
theorem dX10_leave_13 : decode cX10_leave 13 = .ok (.i2l, 1) := by decide +kernel
theorem dX10_leave_14 : decode cX10_leave 14 = .ok (.lconst 0, 1) := by decide +kernel
theorem dX10_leave_15 : decode cX10_leave 15 = .ok (.lconst 1, 1) := by decide +kernel
theorem dX10_leave_16 : decode cX10_leave 16 = .ok (.invokestatic 87, 3) := by decide +kernel
theorem dX10_leave_19 : decode cX10_leave 19 = .ok (.ifCond .ne 6, 3) := by decide +kernel
theorem dX10_leave_22 : decode cX10_leave 22 = .ok (.ldc 97, 2) := by decide +kernel
theorem dX10_leave_24 : decode cX10_leave 24 = .ok (.ireturn, 1) := by decide +kernel
theorem dX10_leave_25 : decode cX10_leave 25 = .ok (.aload_n 0, 1) := by decide +kernel
theorem dX10_leave_26 : decode cX10_leave 26 = .ok (.getfield 37, 3) := by decide +kernel
theorem dX10_leave_29 : decode cX10_leave 29 = .ok (.iload_n 1, 1) := by decide +kernel
theorem dX10_leave_30 : decode cX10_leave 30 = .ok (.baload, 1) := by decide +kernel
theorem dX10_leave_31 : decode cX10_leave 31 = .ok (.ifCond .eq 7, 3) := by decide +kernel
theorem dX10_leave_34 : decode cX10_leave 34 = .ok (.iconst 1, 1) := by decide +kernel
theorem dX10_leave_35 : decode cX10_leave 35 = .ok (.goto 4, 3) := by decide +kernel
theorem dX10_leave_38 : decode cX10_leave 38 = .ok (.iconst 0, 1) := by decide +kernel
theorem dX10_leave_39 : decode cX10_leave 39 = .ok (.istore_n 3, 1) := by decide +kernel
theorem dX10_leave_40 : decode cX10_leave 40 = .ok (.aload_n 0, 1) := by decide +kernel
theorem dX10_leave_41 : decode cX10_leave 41 = .ok (.getfield 37, 3) := by decide +kernel
theorem dX10_leave_44 : decode cX10_leave 44 = .ok (.iload_n 1, 1) := by decide +kernel
theorem dX10_leave_45 : decode cX10_leave 45 = .ok (.iload_n 2, 1) := by decide +kernel
theorem dX10_leave_46 : decode cX10_leave 46 = .ok (.iconst 1, 1) := by decide +kernel
theorem dX10_leave_47 : decode cX10_leave 47 = .ok (.if_icmp .ne 7, 3) := by decide +kernel
theorem dX10_leave_50 : decode cX10_leave 50 = .ok (.iconst 1, 1) := by decide +kernel
theorem dX10_leave_51 : decode cX10_leave 51 = .ok (.goto 4, 3) := by decide +kernel
theorem dX10_leave_54 : decode cX10_leave 54 = .ok (.iconst 0, 1) := by decide +kernel
theorem dX10_leave_55 : decode cX10_leave 55 = .ok (.bastore, 1) := by decide +kernel
theorem dX10_leave_56 : decode cX10_leave 56 = .ok (.iload_n 3, 1) := by decide +kernel
theorem dX10_leave_57 : decode cX10_leave 57 = .ok (.ireturn, 1) := by decide +kernel
theorem dX10_lot_0 : decode cX10_lot 0 = .ok (.aload_n 0, 1) := by decide +kernel
theorem dX10_lot_1 : decode cX10_lot 1 = .ok (.aload_n 0, 1) := by decide +kernel
theorem dX10_lot_2 : decode cX10_lot 2 = .ok (.getfield 211, 3) := by decide +kernel
theorem dX10_lot_5 : decode cX10_lot 5 = .ok (.ldc2_w 215, 3) := by decide +kernel
theorem dX10_lot_8 : decode cX10_lot 8 = .ok (.lmul, 1) := by decide +kernel
theorem dX10_lot_9 : decode cX10_lot 9 = .ok (.ldc2_w 217, 3) := by decide +kernel
theorem dX10_lot_12 : decode cX10_lot 12 = .ok (.ladd, 1) := by decide +kernel
theorem dX10_lot_13 : decode cX10_lot 13 = .ok (.putfield 211, 3) := by decide +kernel
theorem dX10_lot_16 : decode cX10_lot 16 = .ok (.aload_n 0, 1) := by decide +kernel
theorem dX10_lot_17 : decode cX10_lot 17 = .ok (.dup, 1) := by decide +kernel
theorem dX10_lot_18 : decode cX10_lot 18 = .ok (.getfield 219, 3) := by decide +kernel
theorem dX10_lot_21 : decode cX10_lot 21 = .ok (.iconst 1, 1) := by decide +kernel
theorem dX10_lot_22 : decode cX10_lot 22 = .ok (.iadd, 1) := by decide +kernel
theorem dX10_lot_23 : decode cX10_lot 23 = .ok (.putfield 219, 3) := by decide +kernel
theorem dX10_lot_26 : decode cX10_lot 26 = .ok (.aload_n 0, 1) := by decide +kernel
theorem dX10_lot_27 : decode cX10_lot 27 = .ok (.getfield 211, 3) := by decide +kernel
theorem dX10_lot_30 : decode cX10_lot 30 = .ok (.bipush 33, 2) := by decide +kernel
theorem dX10_lot_32 : decode cX10_lot 32 = .ok (.lushr, 1) := by decide +kernel
theorem dX10_lot_33 : decode cX10_lot 33 = .ok (.l2i, 1) := by decide +kernel
theorem dX10_lot_34 : decode cX10_lot 34 = .ok (.ireturn, 1) := by decide +kernel
theorem dX10_sumOf_0 : decode cX10_sumOf 0 = .ok (.iconst 0, 1) := by decide +kernel
theorem dX10_sumOf_1 : decode cX10_sumOf 1 = .ok (.istore_n 3, 1) := by decide +kernel
theorem dX10_sumOf_2 : decode cX10_sumOf 2 = .ok (.iload_n 1, 1) := by decide +kernel
theorem dX10_sumOf_3 : decode cX10_sumOf 3 = .ok (.istore 4, 2) := by decide +kernel
theorem dX10_sumOf_5 : decode cX10_sumOf 5 = .ok (.iload 4, 2) := by decide +kernel
theorem dX10_sumOf_7 : decode cX10_sumOf 7 = .ok (.iload_n 2, 1) := by decide +kernel
theorem dX10_sumOf_8 : decode cX10_sumOf 8 = .ok (.if_icmp .gt 19, 3) := by decide +kernel
theorem dX10_sumOf_11 : decode cX10_sumOf 11 = .ok (.iload_n 3, 1) := by decide +kernel
theorem dX10_sumOf_12 : decode cX10_sumOf 12 = .ok (.aload_n 0, 1) := by decide +kernel
theorem dX10_sumOf_13 : decode cX10_sumOf 13 = .ok (.getfield 31, 3) := by decide +kernel
theorem dX10_sumOf_16 : decode cX10_sumOf 16 = .ok (.iload 4, 2) := by decide +kernel
theorem dX10_sumOf_18 : decode cX10_sumOf 18 = .ok (.iaload, 1) := by decide +kernel
theorem dX10_sumOf_19 : decode cX10_sumOf 19 = .ok (.iadd, 1) := by decide +kernel
theorem dX10_sumOf_20 : decode cX10_sumOf 20 = .ok (.istore_n 3, 1) := by decide +kernel
theorem dX10_sumOf_21 : decode cX10_sumOf 21 = .ok (.iinc 4 1, 3) := by decide +kernel
theorem dX10_sumOf_24 : decode cX10_sumOf 24 = .ok (.goto (-19), 3) := by decide +kernel
theorem dX10_sumOf_27 : decode cX10_sumOf 27 = .ok (.iload_n 3, 1) := by decide +kernel
theorem dX10_sumOf_28 : decode cX10_sumOf 28 = .ok (.ireturn, 1) := by decide +kernel
theorem dX10_draw_0 : decode cX10_draw 0 = .ok (.aload_n 0, 1) := by decide +kernel
theorem dX10_draw_1 : decode cX10_draw 1 = .ok (.iload_n 2, 1) := by decide +kernel
theorem dX10_draw_2 : decode cX10_draw 2 = .ok (.iload_n 3, 1) := by decide +kernel
theorem dX10_draw_3 : decode cX10_draw 3 = .ok (.invokevirtual 222, 3) := by decide +kernel
theorem dX10_draw_6 : decode cX10_draw 6 = .ok (.iload 4, 2) := by decide +kernel
theorem dX10_draw_8 : decode cX10_draw 8 = .ok (.ifCond .ge 7, 3) := by decide +kernel
theorem dX10_draw_11 : decode cX10_draw 11 = .ok (.iconst 0, 1) := by decide +kernel
theorem dX10_draw_12 : decode cX10_draw 12 = .ok (.goto 10, 3) := by decide +kernel
theorem dX10_draw_15 : decode cX10_draw 15 = .ok (.aload_n 0, 1) := by decide +kernel
theorem dX10_draw_16 : decode cX10_draw 16 = .ok (.getfield 31, 3) := by decide +kernel
theorem dX10_draw_19 : decode cX10_draw 19 = .ok (.iload 4, 2) := by decide +kernel
theorem dX10_draw_21 : decode cX10_draw 21 = .ok (.iaload, 1) := by decide +kernel
theorem dX10_draw_22 : decode cX10_draw 22 = .ok (.iadd, 1) := by decide +kernel
theorem dX10_draw_23 : decode cX10_draw 23 = .ok (.istore 5, 2) := by decide +kernel
theorem dX10_draw_25 : decode cX10_draw 25 = .ok (.aload_n 0, 1) := by decide +kernel
theorem dX10_draw_26 : decode cX10_draw 26 = .ok (.getfield 37, 3) := by decide +kernel
theorem dX10_draw_29 : decode cX10_draw 29 = .ok (.iload_n 1, 1) := by decide +kernel
theorem dX10_draw_30 : decode cX10_draw 30 = .ok (.baload, 1) := by decide +kernel
theorem dX10_draw_31 : decode cX10_draw 31 = .ok (.ifCond .ne 8, 3) := by decide +kernel
theorem dX10_draw_34 : decode cX10_draw 34 = .ok (.iload 5, 2) := by decide +kernel
theorem dX10_draw_36 : decode cX10_draw 36 = .ok (.ifCond .ne 6, 3) := by decide +kernel
theorem dX10_draw_39 : decode cX10_draw 39 = .ok (.ldc 106, 2) := by decide +kernel
theorem dX10_draw_41 : decode cX10_draw 41 = .ok (.ireturn, 1) := by decide +kernel
theorem dX10_draw_42 : decode cX10_draw 42 = .ok (.aload_n 0, 1) := by decide +kernel
theorem dX10_draw_43 : decode cX10_draw 43 = .ok (.invokevirtual 225, 3) := by decide +kernel
theorem dX10_draw_46 : decode cX10_draw 46 = .ok (.iload 5, 2) := by decide +kernel
theorem dX10_draw_48 : decode cX10_draw 48 = .ok (.irem, 1) := by decide +kernel
theorem dX10_draw_49 : decode cX10_draw 49 = .ok (.istore 6, 2) := by decide +kernel
theorem dX10_draw_51 : decode cX10_draw 51 = .ok (.iload_n 2, 1) := by decide +kernel
theorem dX10_draw_52 : decode cX10_draw 52 = .ok (.istore 7, 2) := by decide +kernel
theorem dX10_draw_54 : decode cX10_draw 54 = .ok (.iload 7, 2) := by decide +kernel
theorem dX10_draw_56 : decode cX10_draw 56 = .ok (.iload_n 3, 1) := by decide +kernel
theorem dX10_draw_57 : decode cX10_draw 57 = .ok (.if_icmp .gt 31, 3) := by decide +kernel
theorem dX10_draw_60 : decode cX10_draw 60 = .ok (.iload 6, 2) := by decide +kernel
theorem dX10_draw_62 : decode cX10_draw 62 = .ok (.aload_n 0, 1) := by decide +kernel
theorem dX10_draw_63 : decode cX10_draw 63 = .ok (.getfield 31, 3) := by decide +kernel
theorem dX10_draw_66 : decode cX10_draw 66 = .ok (.iload 7, 2) := by decide +kernel
theorem dX10_draw_68 : decode cX10_draw 68 = .ok (.iaload, 1) := by decide +kernel
theorem dX10_draw_69 : decode cX10_draw 69 = .ok (.isub, 1) := by decide +kernel
theorem dX10_draw_70 : decode cX10_draw 70 = .ok (.istore 6, 2) := by decide +kernel
theorem dX10_draw_72 : decode cX10_draw 72 = .ok (.iload 6, 2) := by decide +kernel
theorem dX10_draw_74 : decode cX10_draw 74 = .ok (.ifCond .ge 8, 3) := by decide +kernel
theorem dX10_draw_77 : decode cX10_draw 77 = .ok (.iload 7, 2) := by decide +kernel
theorem dX10_draw_79 : decode cX10_draw 79 = .ok (.iload_n 2, 1) := by decide +kernel
theorem dX10_draw_80 : decode cX10_draw 80 = .ok (.isub, 1) := by decide +kernel
theorem dX10_draw_81 : decode cX10_draw 81 = .ok (.ireturn, 1) := by decide +kernel
theorem dX10_draw_82 : decode cX10_draw 82 = .ok (.iinc 7 1, 3) := by decide +kernel
theorem dX10_draw_85 : decode cX10_draw 85 = .ok (.goto (-31), 3) := by decide +kernel
theorem dX10_draw_88 : decode cX10_draw 88 = .ok (.iload_n 3, 1) := by decide +kernel
theorem dX10_draw_89 : decode cX10_draw 89 = .ok (.iload_n 2, 1) := by decide +kernel
theorem dX10_draw_90 : decode cX10_draw 90 = .ok (.isub, 1) := by decide +kernel
theorem dX10_draw_91 : decode cX10_draw 91 = .ok (.iconst 1, 1) := by decide +kernel
theorem dX10_draw_92 : decode cX10_draw 92 = .ok (.iadd, 1) := by decide +kernel
theorem dX10_draw_93 : decode cX10_draw 93 = .ok (.ireturn, 1) := by decide +kernel
theorem dX10_toFront_0 : decode cX10_toFront 0 = .ok (.iconst 0, 1) := by decide +kernel
theorem dX10_toFront_1 : decode cX10_toFront 1 = .ok (.istore_n 2, 1) := by decide +kernel
theorem dX10_toFront_2 : decode cX10_toFront 2 = .ok (.iload_n 2, 1) := by decide +kernel
theorem dX10_toFront_3 : decode cX10_toFront 3 = .ok (.aload_n 0, 1) := by decide +kernel
theorem dX10_toFront_4 : decode cX10_toFront 4 = .ok (.getfield 229, 3) := by decide +kernel
theorem dX10_toFront_7 : decode cX10_toFront 7 = .ok (.if_icmp .ge 19, 3) := by decide +kernel
theorem dX10_toFront_10 : decode cX10_toFront 10 = .ok (.aload_n 0, 1) := by decide +kernel
theorem dX10_toFront_11 : decode cX10_toFront 11 = .ok (.getfield 44, 3) := by decide +kernel
theorem dX10_toFront_14 : decode cX10_toFront 14 = .ok (.iload_n 2, 1) := by decide +kernel
theorem dX10_toFront_15 : decode cX10_toFront 15 = .ok (.iaload, 1) := by decide +kernel
theorem dX10_toFront_16 : decode cX10_toFront 16 = .ok (.iload_n 1, 1) := by decide +kernel
theorem dX10_toFront_17 : decode cX10_toFront 17 = .ok (.if_icmp .eq 9, 3) := by decide +kernel
theorem dX10_toFront_20 : decode cX10_toFront 20 = .ok (.iinc 2 1, 3) := by decide +kernel
theorem dX10_toFront_23 : decode cX10_toFront 23 = .ok (.goto (-21), 3) := by decide +kernel
theorem dX10_toFront_26 : decode cX10_toFront 26 = .ok (.aload_n 0, 1) := by decide +kernel
theorem dX10_toFront_27 : decode cX10_toFront 27 = .ok (.dup, 1) := by decide +kernel
theorem dX10_toFront_28 : decode cX10_toFront 28 = .ok (.getfield 229, 3) := by decide +kernel
theorem dX10_toFront_31 : decode cX10_toFront 31 = .ok (.iload_n 2, 1) := by decide +kernel
theorem dX10_toFront_32 : decode cX10_toFront 32 = .ok (.aload_n 0, 1) := by decide +kernel
theorem dX10_toFront_33 : decode cX10_toFront 33 = .ok (.getfield 229, 3) := by decide +kernel
theorem dX10_toFront_36 : decode cX10_toFront 36 = .ok (.if_icmp .ne 7, 3) := by decide +kernel
theorem dX10_toFront_39 : decode cX10_toFront 39 = .ok (.iconst 1, 1) := by decide +kernel
theorem dX10_toFront_40 : decode cX10_toFront 40 = .ok (.goto 4, 3) := by decide +kernel
theorem dX10_toFront_43 : decode cX10_toFront 43 = .ok (.iconst 0, 1) := by decide +kernel
theorem dX10_toFront_44 : decode cX10_toFront 44 = .ok (.iadd, 1) := by decide +kernel
theorem dX10_toFront_45 : decode cX10_toFront 45 = .ok (.putfield 229, 3) := by decide +kernel
theorem dX10_toFront_48 : decode cX10_toFront 48 = .ok (.iload_n 2, 1) := by decide +kernel
theorem dX10_toFront_49 : decode cX10_toFront 49 = .ok (.istore_n 3, 1) := by decide +kernel
theorem dX10_toFront_50 : decode cX10_toFront 50 = .ok (.iload_n 3, 1) := by decide +kernel
theorem dX10_toFront_51 : decode cX10_toFront 51 = .ok (.ifCond .le 23, 3) := by decide +kernel
theorem dX10_toFront_54 : decode cX10_toFront 54 = .ok (.aload_n 0, 1) := by decide +kernel
theorem dX10_toFront_55 : decode cX10_toFront 55 = .ok (.getfield 44, 3) := by decide +kernel
theorem dX10_toFront_58 : decode cX10_toFront 58 = .ok (.iload_n 3, 1) := by decide +kernel
theorem dX10_toFront_59 : decode cX10_toFront 59 = .ok (.aload_n 0, 1) := by decide +kernel
theorem dX10_toFront_60 : decode cX10_toFront 60 = .ok (.getfield 44, 3) := by decide +kernel
theorem dX10_toFront_63 : decode cX10_toFront 63 = .ok (.iload_n 3, 1) := by decide +kernel
theorem dX10_toFront_64 : decode cX10_toFront 64 = .ok (.iconst 1, 1) := by decide +kernel
theorem dX10_toFront_65 : decode cX10_toFront 65 = .ok (.isub, 1) := by decide +kernel
theorem dX10_toFront_66 : decode cX10_toFront 66 = .ok (.iaload, 1) := by decide +kernel
theorem dX10_toFront_67 : decode cX10_toFront 67 = .ok (.iastore, 1) := by decide +kernel
theorem dX10_toFront_68 : decode cX10_toFront 68 = .ok (.iinc 3 (-1), 3) := by decide +kernel
theorem dX10_toFront_71 : decode cX10_toFront 71 = .ok (.goto (-21), 3) := by decide +kernel
theorem dX10_toFront_74 : decode cX10_toFront 74 = .ok (.aload_n 0, 1) := by decide +kernel
theorem dX10_toFront_75 : decode cX10_toFront 75 = .ok (.getfield 44, 3) := by decide +kernel
theorem dX10_toFront_78 : decode cX10_toFront 78 = .ok (.iconst 0, 1) := by decide +kernel
theorem dX10_toFront_79 : decode cX10_toFront 79 = .ok (.iload_n 1, 1) := by decide +kernel
theorem dX10_toFront_80 : decode cX10_toFront 80 = .ok (.iastore, 1) := by decide +kernel
theorem dX10_toFront_81 : decode cX10_toFront 81 = .ok (.return_, 1) := by decide +kernel
theorem dX10_leastNew_0 : decode cX10_leastNew 0 = .ok (.iconst 0, 1) := by decide +kernel
theorem dX10_leastNew_1 : decode cX10_leastNew 1 = .ok (.istore_n 1, 1) := by decide +kernel
theorem dX10_leastNew_2 : decode cX10_leastNew 2 = .ok (.iconst 0, 1) := by decide +kernel
theorem dX10_leastNew_3 : decode cX10_leastNew 3 = .ok (.istore_n 2, 1) := by decide +kernel
theorem dX10_leastNew_4 : decode cX10_leastNew 4 = .ok (.iload_n 2, 1) := by decide +kernel
theorem dX10_leastNew_5 : decode cX10_leastNew 5 = .ok (.aload_n 0, 1) := by decide +kernel
theorem dX10_leastNew_6 : decode cX10_leastNew 6 = .ok (.getfield 229, 3) := by decide +kernel
theorem dX10_leastNew_9 : decode cX10_leastNew 9 = .ok (.if_icmp .ge 20, 3) := by decide +kernel
theorem dX10_leastNew_12 : decode cX10_leastNew 12 = .ok (.iload_n 1, 1) := by decide +kernel
theorem dX10_leastNew_13 : decode cX10_leastNew 13 = .ok (.iconst 1, 1) := by decide +kernel
theorem dX10_leastNew_14 : decode cX10_leastNew 14 = .ok (.aload_n 0, 1) := by decide +kernel
theorem dX10_leastNew_15 : decode cX10_leastNew 15 = .ok (.getfield 44, 3) := by decide +kernel
theorem dX10_leastNew_18 : decode cX10_leastNew 18 = .ok (.iload_n 2, 1) := by decide +kernel
theorem dX10_leastNew_19 : decode cX10_leastNew 19 = .ok (.iaload, 1) := by decide +kernel
theorem dX10_leastNew_20 : decode cX10_leastNew 20 = .ok (.ishl, 1) := by decide +kernel
theorem dX10_leastNew_21 : decode cX10_leastNew 21 = .ok (.ior, 1) := by decide +kernel
theorem dX10_leastNew_22 : decode cX10_leastNew 22 = .ok (.istore_n 1, 1) := by decide +kernel
theorem dX10_leastNew_23 : decode cX10_leastNew 23 = .ok (.iinc 2 1, 3) := by decide +kernel
theorem dX10_leastNew_26 : decode cX10_leastNew 26 = .ok (.goto (-22), 3) := by decide +kernel
theorem dX10_leastNew_29 : decode cX10_leastNew 29 = .ok (.iconst 0, 1) := by decide +kernel
theorem dX10_leastNew_30 : decode cX10_leastNew 30 = .ok (.istore_n 2, 1) := by decide +kernel
theorem dX10_leastNew_31 : decode cX10_leastNew 31 = .ok (.iload_n 1, 1) := by decide +kernel
theorem dX10_leastNew_32 : decode cX10_leastNew 32 = .ok (.iload_n 2, 1) := by decide +kernel
theorem dX10_leastNew_33 : decode cX10_leastNew 33 = .ok (.ishr, 1) := by decide +kernel
theorem dX10_leastNew_34 : decode cX10_leastNew 34 = .ok (.iconst 1, 1) := by decide +kernel
theorem dX10_leastNew_35 : decode cX10_leastNew 35 = .ok (.iand, 1) := by decide +kernel
theorem dX10_leastNew_36 : decode cX10_leastNew 36 = .ok (.iconst 1, 1) := by decide +kernel
theorem dX10_leastNew_37 : decode cX10_leastNew 37 = .ok (.if_icmp .ne 9, 3) := by decide +kernel
theorem dX10_leastNew_40 : decode cX10_leastNew 40 = .ok (.iinc 2 1, 3) := by decide +kernel
theorem dX10_leastNew_43 : decode cX10_leastNew 43 = .ok (.goto (-12), 3) := by decide +kernel
theorem dX10_leastNew_46 : decode cX10_leastNew 46 = .ok (.iload_n 2, 1) := by decide +kernel
theorem dX10_leastNew_47 : decode cX10_leastNew 47 = .ok (.ireturn, 1) := by decide +kernel
