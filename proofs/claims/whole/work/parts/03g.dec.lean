theorem dX9_told_0 : decode cX9_told 0 = .ok (.iload_n 1, 1) := by decide +kernel
theorem dX9_told_1 : decode cX9_told 1 = .ok (.iconst 2, 1) := by decide +kernel
theorem dX9_told_2 : decode cX9_told 2 = .ok (.invokestatic 96, 3) := by decide +kernel
theorem dX9_told_5 : decode cX9_told 5 = .ok (.ifCond .eq 15, 3) := by decide +kernel
theorem dX9_told_8 : decode cX9_told 8 = .ok (.iload_n 2, 1) := by decide +kernel
theorem dX9_told_9 : decode cX9_told 9 = .ok (.ifCond .lt 11, 3) := by decide +kernel
theorem dX9_told_12 : decode cX9_told 12 = .ok (.iload_n 3, 1) := by decide +kernel
theorem dX9_told_13 : decode cX9_told 13 = .ok (.iconst 5, 1) := by decide +kernel
theorem dX9_told_14 : decode cX9_told 14 = .ok (.invokestatic 96, 3) := by decide +kernel
theorem dX9_told_17 : decode cX9_told 17 = .ok (.ifCond .ne 6, 3) := by decide +kernel
theorem dX9_told_20 : decode cX9_told 20 = .ok (.ldc 100, 2) := by decide +kernel
theorem dX9_told_22 : decode cX9_told 22 = .ok (.ireturn, 1) := by decide +kernel
theorem dX9_told_23 : decode cX9_told 23 = .ok (.iload_n 1, 1) := by decide +kernel
theorem dX9_told_24 : decode cX9_told 24 = .ok (.ifCond .ne 10, 3) := by decide +kernel
theorem dX9_told_27 : decode cX9_told 27 = .ok (.aload_n 0, 1) := by decide +kernel
theorem dX9_told_28 : decode cX9_told 28 = .ok (.getfield 18, 3) := by decide +kernel
theorem dX9_told_31 : decode cX9_told 31 = .ok (.goto 7, 3) := by decide +kernel
theorem dX9_told_34 : decode cX9_told 34 = .ok (.aload_n 0, 1) := by decide +kernel
theorem dX9_told_35 : decode cX9_told 35 = .ok (.getfield 22, 3) := by decide +kernel
theorem dX9_told_38 : decode cX9_told 38 = .ok (.astore 4, 2) := by decide +kernel
theorem dX9_told_40 : decode cX9_told 40 = .ok (.iload_n 2, 1) := by decide +kernel
theorem dX9_told_41 : decode cX9_told 41 = .ok (.aload 4, 2) := by decide +kernel
theorem dX9_told_43 : decode cX9_told 43 = .ok (.getfield 137, 3) := by decide +kernel
theorem dX9_told_46 : decode cX9_told 46 = .ok (.if_icmp .lt 6, 3) := by decide +kernel
theorem dX9_told_49 : decode cX9_told 49 = .ok (.ldc 153, 2) := by decide +kernel
theorem dX9_told_51 : decode cX9_told 51 = .ok (.ireturn, 1) := by decide +kernel
theorem dX9_told_52 : decode cX9_told 52 = .ok (.iload_n 3, 1) := by decide +kernel
theorem dX9_told_53 : decode cX9_told 53 = .ok (.tableswitch 63 0 3 #[31, 39, 47, 55], 31) := by decide +kernel
theorem dX9_told_84 : decode cX9_told 84 = .ok (.aload 4, 2) := by decide +kernel
theorem dX9_told_86 : decode cX9_told 86 = .ok (.getfield 154, 3) := by decide +kernel
theorem dX9_told_89 : decode cX9_told 89 = .ok (.iload_n 2, 1) := by decide +kernel
theorem dX9_told_90 : decode cX9_told 90 = .ok (.iaload, 1) := by decide +kernel
theorem dX9_told_91 : decode cX9_told 91 = .ok (.ireturn, 1) := by decide +kernel
theorem dX9_told_92 : decode cX9_told 92 = .ok (.aload 4, 2) := by decide +kernel
theorem dX9_told_94 : decode cX9_told 94 = .ok (.getfield 157, 3) := by decide +kernel
theorem dX9_told_97 : decode cX9_told 97 = .ok (.iload_n 2, 1) := by decide +kernel
theorem dX9_told_98 : decode cX9_told 98 = .ok (.iaload, 1) := by decide +kernel
theorem dX9_told_99 : decode cX9_told 99 = .ok (.ireturn, 1) := by decide +kernel
theorem dX9_told_100 : decode cX9_told 100 = .ok (.aload 4, 2) := by decide +kernel
theorem dX9_told_102 : decode cX9_told 102 = .ok (.getfield 160, 3) := by decide +kernel
theorem dX9_told_105 : decode cX9_told 105 = .ok (.iload_n 2, 1) := by decide +kernel
theorem dX9_told_106 : decode cX9_told 106 = .ok (.iaload, 1) := by decide +kernel
theorem dX9_told_107 : decode cX9_told 107 = .ok (.ireturn, 1) := by decide +kernel
theorem dX9_told_108 : decode cX9_told 108 = .ok (.aload 4, 2) := by decide +kernel
theorem dX9_told_110 : decode cX9_told 110 = .ok (.getfield 163, 3) := by decide +kernel
theorem dX9_told_113 : decode cX9_told 113 = .ok (.iload_n 2, 1) := by decide +kernel
theorem dX9_told_114 : decode cX9_told 114 = .ok (.iaload, 1) := by decide +kernel
theorem dX9_told_115 : decode cX9_told 115 = .ok (.ireturn, 1) := by decide +kernel
theorem dX9_told_116 : decode cX9_told 116 = .ok (.aload 4, 2) := by decide +kernel
theorem dX9_told_118 : decode cX9_told 118 = .ok (.iload_n 2, 1) := by decide +kernel
theorem dX9_told_119 : decode cX9_told 119 = .ok (.invokevirtual 166, 3) := by decide +kernel
theorem dX9_told_122 : decode cX9_told 122 = .ok (.ireturn, 1) := by decide +kernel
theorem dX9_came_0 : decode cX9_came 0 = .ok (.iload_n 1, 1) := by decide +kernel
theorem dX9_came_1 : decode cX9_came 1 = .ok (.bipush 11, 2) := by decide +kernel
theorem dX9_came_3 : decode cX9_came 3 = .ok (.invokestatic 96, 3) := by decide +kernel
theorem dX9_came_6 : decode cX9_came 6 = .ok (.ifCond .ne 6, 3) := by decide +kernel
theorem dX9_came_9 : decode cX9_came 9 = .ok (.ldc 100, 2) := by decide +kernel
theorem dX9_came_11 : decode cX9_came 11 = .ok (.ireturn, 1) := by decide +kernel
theorem dX9_came_12 : decode cX9_came 12 = .ok (.aload_n 0, 1) := by decide +kernel
theorem dX9_came_13 : decode cX9_came 13 = .ok (.getfield 18, 3) := by decide +kernel
theorem dX9_came_16 : decode cX9_came 16 = .ok (.iconst 1, 1) := by decide +kernel
theorem dX9_came_17 : decode cX9_came 17 = .ok (.aload_n 0, 1) := by decide +kernel
theorem dX9_came_18 : decode cX9_came 18 = .ok (.getfield 70, 3) := by decide +kernel
theorem dX9_came_21 : decode cX9_came 21 = .ok (.invokevirtual 169, 3) := by decide +kernel
theorem dX9_came_24 : decode cX9_came 24 = .ok (.aload_n 0, 1) := by decide +kernel
theorem dX9_came_25 : decode cX9_came 25 = .ok (.getfield 70, 3) := by decide +kernel
theorem dX9_came_28 : decode cX9_came 28 = .ok (.iload_n 1, 1) := by decide +kernel
theorem dX9_came_29 : decode cX9_came 29 = .ok (.iaload, 1) := by decide +kernel
theorem dX9_came_30 : decode cX9_came 30 = .ok (.ireturn, 1) := by decide +kernel
theorem dX9_feed_0 : decode cX9_feed 0 = .ok (.iload_n 3, 1) := by decide +kernel
theorem dX9_feed_1 : decode cX9_feed 1 = .ok (.iconst 1, 1) := by decide +kernel
theorem dX9_feed_2 : decode cX9_feed 2 = .ok (.if_icmp .lt 9, 3) := by decide +kernel
theorem dX9_feed_5 : decode cX9_feed 5 = .ok (.iload_n 3, 1) := by decide +kernel
theorem dX9_feed_6 : decode cX9_feed 6 = .ok (.bipush 8, 2) := by decide +kernel
theorem dX9_feed_8 : decode cX9_feed 8 = .ok (.if_icmp .le 6, 3) := by decide +kernel
theorem dX9_feed_11 : decode cX9_feed 11 = .ok (.ldc 100, 2) := by decide +kernel
theorem dX9_feed_13 : decode cX9_feed 13 = .ok (.ireturn, 1) := by decide +kernel
theorem dX9_feed_14 : decode cX9_feed 14 = .ok (.iload_n 3, 1) := by decide +kernel
theorem dX9_feed_15 : decode cX9_feed 15 = .ok (.sipush 400, 3) := by decide +kernel
theorem dX9_feed_18 : decode cX9_feed 18 = .ok (.aload_n 0, 1) := by decide +kernel
theorem dX9_feed_19 : decode cX9_feed 19 = .ok (.getfield 31, 3) := by decide +kernel
theorem dX9_feed_22 : decode cX9_feed 22 = .ok (.getfield 173, 3) := by decide +kernel
theorem dX9_feed_25 : decode cX9_feed 25 = .ok (.isub, 1) := by decide +kernel
theorem dX9_feed_26 : decode cX9_feed 26 = .ok (.if_icmp .le 6, 3) := by decide +kernel
theorem dX9_feed_29 : decode cX9_feed 29 = .ok (.ldc 140, 2) := by decide +kernel
theorem dX9_feed_31 : decode cX9_feed 31 = .ok (.ireturn, 1) := by decide +kernel
theorem dX9_feed_32 : decode cX9_feed 32 = .ok (.iload_n 3, 1) := by decide +kernel
theorem dX9_feed_33 : decode cX9_feed 33 = .ok (.iconst 1, 1) := by decide +kernel
theorem dX9_feed_34 : decode cX9_feed 34 = .ok (.isub, 1) := by decide +kernel
theorem dX9_feed_35 : decode cX9_feed 35 = .ok (.istore 4, 2) := by decide +kernel
theorem dX9_feed_37 : decode cX9_feed 37 = .ok (.iload 4, 2) := by decide +kernel
theorem dX9_feed_39 : decode cX9_feed 39 = .ok (.ifCond .lt 28, 3) := by decide +kernel
theorem dX9_feed_42 : decode cX9_feed 42 = .ok (.aload_n 0, 1) := by decide +kernel
theorem dX9_feed_43 : decode cX9_feed 43 = .ok (.getfield 31, 3) := by decide +kernel
theorem dX9_feed_46 : decode cX9_feed 46 = .ok (.lload_n 1, 1) := by decide +kernel
theorem dX9_feed_47 : decode cX9_feed 47 = .ok (.bipush 8, 2) := by decide +kernel
theorem dX9_feed_49 : decode cX9_feed 49 = .ok (.iload 4, 2) := by decide +kernel
theorem dX9_feed_51 : decode cX9_feed 51 = .ok (.imul, 1) := by decide +kernel
theorem dX9_feed_52 : decode cX9_feed 52 = .ok (.lushr, 1) := by decide +kernel
theorem dX9_feed_53 : decode cX9_feed 53 = .ok (.l2i, 1) := by decide +kernel
theorem dX9_feed_54 : decode cX9_feed 54 = .ok (.sipush 255, 3) := by decide +kernel
theorem dX9_feed_57 : decode cX9_feed 57 = .ok (.iand, 1) := by decide +kernel
theorem dX9_feed_58 : decode cX9_feed 58 = .ok (.invokevirtual 174, 3) := by decide +kernel
theorem dX9_feed_61 : decode cX9_feed 61 = .ok (.iinc 4 (-1), 3) := by decide +kernel
theorem dX9_feed_64 : decode cX9_feed 64 = .ok (.goto (-27), 3) := by decide +kernel
theorem dX9_feed_67 : decode cX9_feed 67 = .ok (.aload_n 0, 1) := by decide +kernel
theorem dX9_feed_68 : decode cX9_feed 68 = .ok (.getfield 31, 3) := by decide +kernel
theorem dX9_feed_71 : decode cX9_feed 71 = .ok (.getfield 173, 3) := by decide +kernel
theorem dX9_feed_74 : decode cX9_feed 74 = .ok (.ireturn, 1) := by decide +kernel
theorem dX9_model_0 : decode cX9_model 0 = .ok (.aload_n 0, 1) := by decide +kernel
theorem dX9_model_1 : decode cX9_model 1 = .ok (.getfield 38, 3) := by decide +kernel
theorem dX9_model_4 : decode cX9_model 4 = .ok (.getfield 177, 3) := by decide +kernel
theorem dX9_model_7 : decode cX9_model 7 = .ok (.aload_n 0, 1) := by decide +kernel
theorem dX9_model_8 : decode cX9_model 8 = .ok (.getfield 31, 3) := by decide +kernel
theorem dX9_model_11 : decode cX9_model 11 = .ok (.getfield 181, 3) := by decide +kernel
theorem dX9_model_14 : decode cX9_model 14 = .ok (.invokestatic 184, 3) := by decide +kernel
theorem dX9_model_17 : decode cX9_model 17 = .ok (.aload_n 0, 1) := by decide +kernel
theorem dX9_model_18 : decode cX9_model 18 = .ok (.getfield 31, 3) := by decide +kernel
theorem dX9_model_21 : decode cX9_model 21 = .ok (.invokevirtual 188, 3) := by decide +kernel
theorem dX9_model_24 : decode cX9_model 24 = .ok (.istore_n 1, 1) := by decide +kernel
theorem dX9_model_25 : decode cX9_model 25 = .ok (.aload_n 0, 1) := by decide +kernel
theorem dX9_model_26 : decode cX9_model 26 = .ok (.getfield 31, 3) := by decide +kernel
theorem dX9_model_29 : decode cX9_model 29 = .ok (.iconst 0, 1) := by decide +kernel
theorem dX9_model_30 : decode cX9_model 30 = .ok (.putfield 173, 3) := by decide +kernel
theorem dX9_model_33 : decode cX9_model 33 = .ok (.iload_n 1, 1) := by decide +kernel
theorem dX9_model_34 : decode cX9_model 34 = .ok (.ifCond .eq 19, 3) := by decide +kernel
theorem dX9_model_37 : decode cX9_model 37 = .ok (.aload_n 0, 1) := by decide +kernel
theorem dX9_model_38 : decode cX9_model 38 = .ok (.iload_n 1, 1) := by decide +kernel
theorem dX9_model_39 : decode cX9_model 39 = .ok (.putfield 85, 3) := by decide +kernel
theorem dX9_model_42 : decode cX9_model 42 = .ok (.ldc 191, 2) := by decide +kernel
theorem dX9_model_44 : decode cX9_model 44 = .ok (.aload_n 0, 1) := by decide +kernel
theorem dX9_model_45 : decode cX9_model 45 = .ok (.getfield 31, 3) := by decide +kernel
theorem dX9_model_48 : decode cX9_model 48 = .ok (.getfield 192, 3) := by decide +kernel
theorem dX9_model_51 : decode cX9_model 51 = .ok (.isub, 1) := by decide +kernel
theorem dX9_model_52 : decode cX9_model 52 = .ok (.ireturn, 1) := by decide +kernel
theorem dX9_model_53 : decode cX9_model 53 = .ok (.aload_n 0, 1) := by decide +kernel
theorem dX9_model_54 : decode cX9_model 54 = .ok (.getfield 31, 3) := by decide +kernel
theorem dX9_model_57 : decode cX9_model 57 = .ok (.getfield 181, 3) := by decide +kernel
theorem dX9_model_60 : decode cX9_model 60 = .ok (.aload_n 0, 1) := by decide +kernel
theorem dX9_model_61 : decode cX9_model 61 = .ok (.getfield 38, 3) := by decide +kernel
theorem dX9_model_64 : decode cX9_model 64 = .ok (.getfield 177, 3) := by decide +kernel
theorem dX9_model_67 : decode cX9_model 67 = .ok (.invokestatic 184, 3) := by decide +kernel
theorem dX9_model_70 : decode cX9_model 70 = .ok (.aload_n 0, 1) := by decide +kernel
theorem dX9_model_71 : decode cX9_model 71 = .ok (.getfield 38, 3) := by decide +kernel
theorem dX9_model_74 : decode cX9_model 74 = .ok (.invokevirtual 195, 3) := by decide +kernel
theorem dX9_model_77 : decode cX9_model 77 = .ok (.ireturn, 1) := by decide +kernel
theorem dX9_fault_0 : decode cX9_fault 0 = .ok (.aload_n 0, 1) := by decide +kernel
theorem dX9_fault_1 : decode cX9_fault 1 = .ok (.getfield 85, 3) := by decide +kernel
theorem dX9_fault_4 : decode cX9_fault 4 = .ok (.ireturn, 1) := by decide +kernel
theorem dX9_weight_0 : decode cX9_weight 0 = .ok (.iload_n 1, 1) := by decide +kernel
theorem dX9_weight_1 : decode cX9_weight 1 = .ok (.iconst 4, 1) := by decide +kernel
theorem dX9_weight_2 : decode cX9_weight 2 = .ok (.invokestatic 96, 3) := by decide +kernel
theorem dX9_weight_5 : decode cX9_weight 5 = .ok (.ifCond .eq 19, 3) := by decide +kernel
theorem dX9_weight_8 : decode cX9_weight 8 = .ok (.iload_n 2, 1) := by decide +kernel
theorem dX9_weight_9 : decode cX9_weight 9 = .ok (.iload_n 1, 1) := by decide +kernel
theorem dX9_weight_10 : decode cX9_weight 10 = .ok (.invokestatic 198, 3) := by decide +kernel
theorem dX9_weight_13 : decode cX9_weight 13 = .ok (.if_icmp .lt 11, 3) := by decide +kernel
theorem dX9_weight_16 : decode cX9_weight 16 = .ok (.iload_n 2, 1) := by decide +kernel
theorem dX9_weight_17 : decode cX9_weight 17 = .ok (.iload_n 1, 1) := by decide +kernel
theorem dX9_weight_18 : decode cX9_weight 18 = .ok (.invokestatic 201, 3) := by decide +kernel
theorem dX9_weight_21 : decode cX9_weight 21 = .ok (.if_icmp .le 6, 3) := by decide +kernel
theorem dX9_weight_24 : decode cX9_weight 24 = .ok (.ldc 100, 2) := by decide +kernel
theorem dX9_weight_26 : decode cX9_weight 26 = .ok (.ireturn, 1) := by decide +kernel
theorem dX9_weight_27 : decode cX9_weight 27 = .ok (.aload_n 0, 1) := by decide +kernel
theorem dX9_weight_28 : decode cX9_weight 28 = .ok (.getfield 38, 3) := by decide +kernel
theorem dX9_weight_31 : decode cX9_weight 31 = .ok (.getfield 177, 3) := by decide +kernel
theorem dX9_weight_34 : decode cX9_weight 34 = .ok (.iload_n 1, 1) := by decide +kernel
theorem dX9_weight_35 : decode cX9_weight 35 = .ok (.aaload, 1) := by decide +kernel
theorem dX9_weight_36 : decode cX9_weight 36 = .ok (.iload_n 2, 1) := by decide +kernel
theorem dX9_weight_37 : decode cX9_weight 37 = .ok (.iaload, 1) := by decide +kernel
theorem dX9_weight_38 : decode cX9_weight 38 = .ok (.ireturn, 1) := by decide +kernel
theorem dX9_leave_0 : decode cX9_leave 0 = .ok (.iload_n 1, 1) := by decide +kernel
theorem dX9_leave_1 : decode cX9_leave 1 = .ok (.iconst 4, 1) := by decide +kernel
theorem dX9_leave_2 : decode cX9_leave 2 = .ok (.invokestatic 96, 3) := by decide +kernel
theorem dX9_leave_5 : decode cX9_leave 5 = .ok (.ifCond .eq 11, 3) := by decide +kernel
theorem dX9_leave_8 : decode cX9_leave 8 = .ok (.iload_n 2, 1) := by decide +kernel
theorem dX9_leave_9 : decode cX9_leave 9 = .ok (.iconst 2, 1) := by decide +kernel
theorem dX9_leave_10 : decode cX9_leave 10 = .ok (.invokestatic 96, 3) := by decide +kernel
theorem dX9_leave_13 : decode cX9_leave 13 = .ok (.ifCond .ne 6, 3) := by decide +kernel
theorem dX9_leave_16 : decode cX9_leave 16 = .ok (.ldc 100, 2) := by decide +kernel
theorem dX9_leave_18 : decode cX9_leave 18 = .ok (.ireturn, 1) := by decide +kernel
theorem dX9_leave_19 : decode cX9_leave 19 = .ok (.aload_n 0, 1) := by decide +kernel
theorem dX9_leave_20 : decode cX9_leave 20 = .ok (.getfield 38, 3) := by decide +kernel
theorem dX9_leave_23 : decode cX9_leave 23 = .ok (.getfield 204, 3) := by decide +kernel
theorem dX9_leave_26 : decode cX9_leave 26 = .ok (.iload_n 1, 1) := by decide +kernel
theorem dX9_leave_27 : decode cX9_leave 27 = .ok (.baload, 1) := by decide +kernel
theorem dX9_leave_28 : decode cX9_leave 28 = .ok (.ifCond .eq 7, 3) := by decide +kernel
theorem dX9_leave_31 : decode cX9_leave 31 = .ok (.iconst 1, 1) := by decide +kernel
theorem dX9_leave_32 : decode cX9_leave 32 = .ok (.goto 4, 3) := by decide +kernel
theorem dX9_leave_35 : decode cX9_leave 35 = .ok (.iconst 0, 1) := by decide +kernel
theorem dX9_leave_36 : decode cX9_leave 36 = .ok (.istore_n 3, 1) := by decide +kernel
theorem dX9_leave_37 : decode cX9_leave 37 = .ok (.aload_n 0, 1) := by decide +kernel
theorem dX9_leave_38 : decode cX9_leave 38 = .ok (.getfield 38, 3) := by decide +kernel
theorem dX9_leave_41 : decode cX9_leave 41 = .ok (.getfield 204, 3) := by decide +kernel
theorem dX9_leave_44 : decode cX9_leave 44 = .ok (.iload_n 1, 1) := by decide +kernel
theorem dX9_leave_45 : decode cX9_leave 45 = .ok (.iload_n 2, 1) := by decide +kernel
theorem dX9_leave_46 : decode cX9_leave 46 = .ok (.iconst 1, 1) := by decide +kernel
theorem dX9_leave_47 : decode cX9_leave 47 = .ok (.if_icmp .ne 7, 3) := by decide +kernel
theorem dX9_leave_50 : decode cX9_leave 50 = .ok (.iconst 1, 1) := by decide +kernel
theorem dX9_leave_51 : decode cX9_leave 51 = .ok (.goto 4, 3) := by decide +kernel
theorem dX9_leave_54 : decode cX9_leave 54 = .ok (.iconst 0, 1) := by decide +kernel
theorem dX9_leave_55 : decode cX9_leave 55 = .ok (.bastore, 1) := by decide +kernel
theorem dX9_leave_56 : decode cX9_leave 56 = .ok (.iload_n 3, 1) := by decide +kernel
theorem dX9_leave_57 : decode cX9_leave 57 = .ok (.ireturn, 1) := by decide +kernel
theorem dX9_make_0 : decode cX9_make 0 = .ok (.iload_n 3, 1) := by decide +kernel
theorem dX9_make_1 : decode cX9_make 1 = .ok (.ifCond .lt 9, 3) := by decide +kernel
theorem dX9_make_4 : decode cX9_make 4 = .ok (.iload_n 3, 1) := by decide +kernel
theorem dX9_make_5 : decode cX9_make 5 = .ok (.bipush 40, 2) := by decide +kernel
theorem dX9_make_7 : decode cX9_make 7 = .ok (.if_icmp .le 6, 3) := by decide +kernel
theorem dX9_make_10 : decode cX9_make 10 = .ok (.ldc 100, 2) := by decide +kernel
theorem dX9_make_12 : decode cX9_make 12 = .ok (.ireturn, 1) := by decide +kernel
theorem dX9_make_13 : decode cX9_make 13 = .ok (.aload_n 0, 1) := by decide +kernel
theorem dX9_make_14 : decode cX9_make 14 = .ok (.iconst 1, 1) := by decide +kernel
theorem dX9_make_15 : decode cX9_make 15 = .ok (.putfield 77, 3) := by decide +kernel
theorem dX9_make_18 : decode cX9_make 18 = .ok (.aload_n 0, 1) := by decide +kernel
theorem dX9_make_19 : decode cX9_make 19 = .ok (.lload_n 1, 1) := by decide +kernel
theorem dX9_make_20 : decode cX9_make 20 = .ok (.putfield 81, 3) := by decide +kernel
theorem dX9_make_23 : decode cX9_make 23 = .ok (.aload_n 0, 1) := by decide +kernel
theorem dX9_make_24 : decode cX9_make 24 = .ok (.getfield 45, 3) := by decide +kernel
theorem dX9_make_27 : decode cX9_make 27 = .ok (.aload_n 0, 1) := by decide +kernel
theorem dX9_make_28 : decode cX9_make 28 = .ok (.getfield 22, 3) := by decide +kernel
theorem dX9_make_31 : decode cX9_make 31 = .ok (.aload_n 0, 1) := by decide +kernel
theorem dX9_make_32 : decode cX9_make 32 = .ok (.getfield 38, 3) := by decide +kernel
theorem dX9_make_35 : decode cX9_make 35 = .ok (.lload_n 1, 1) := by decide +kernel
theorem dX9_make_36 : decode cX9_make 36 = .ok (.iload_n 3, 1) := by decide +kernel
theorem dX9_make_37 : decode cX9_make 37 = .ok (.ldc 153, 2) := by decide +kernel
theorem dX9_make_39 : decode cX9_make 39 = .ok (.invokevirtual 208, 3) := by decide +kernel
theorem dX9_make_42 : decode cX9_make 42 = .ok (.ireturn, 1) := by decide +kernel
theorem dX9_stretch_0 : decode cX9_stretch 0 = .ok (.iload_n 1, 1) := by decide +kernel
theorem dX9_stretch_1 : decode cX9_stretch 1 = .ok (.iconst 1, 1) := by decide +kernel
theorem dX9_stretch_2 : decode cX9_stretch 2 = .ok (.if_icmp .lt 8, 3) := by decide +kernel
theorem dX9_stretch_5 : decode cX9_stretch 5 = .ok (.iload_n 1, 1) := by decide +kernel
theorem dX9_stretch_6 : decode cX9_stretch 6 = .ok (.iconst 4, 1) := by decide +kernel
theorem dX9_stretch_7 : decode cX9_stretch 7 = .ok (.if_icmp .le 6, 3) := by decide +kernel
theorem dX9_stretch_10 : decode cX9_stretch 10 = .ok (.ldc 100, 2) := by decide +kernel
theorem dX9_stretch_12 : decode cX9_stretch 12 = .ok (.ireturn, 1) := by decide +kernel
theorem dX9_stretch_13 : decode cX9_stretch 13 = .ok (.aload_n 0, 1) := by decide +kernel
theorem dX9_stretch_14 : decode cX9_stretch 14 = .ok (.iconst 0, 1) := by decide +kernel
theorem dX9_stretch_15 : decode cX9_stretch 15 = .ok (.putfield 77, 3) := by decide +kernel
theorem dX9_stretch_18 : decode cX9_stretch 18 = .ok (.aload_n 0, 1) := by decide +kernel
theorem dX9_stretch_19 : decode cX9_stretch 19 = .ok (.getfield 22, 3) := by decide +kernel
theorem dX9_stretch_22 : decode cX9_stretch 22 = .ok (.iconst 0, 1) := by decide +kernel
theorem dX9_stretch_23 : decode cX9_stretch 23 = .ok (.putfield 137, 3) := by decide +kernel
theorem dX9_stretch_26 : decode cX9_stretch 26 = .ok (.iconst 0, 1) := by decide +kernel
theorem dX9_stretch_27 : decode cX9_stretch 27 = .ok (.istore_n 2, 1) := by decide +kernel
theorem dX9_stretch_28 : decode cX9_stretch 28 = .ok (.iload_n 2, 1) := by decide +kernel
theorem dX9_stretch_29 : decode cX9_stretch 29 = .ok (.aload_n 0, 1) := by decide +kernel
theorem dX9_stretch_30 : decode cX9_stretch 30 = .ok (.getfield 18, 3) := by decide +kernel
theorem dX9_stretch_33 : decode cX9_stretch 33 = .ok (.getfield 137, 3) := by decide +kernel
theorem dX9_stretch_36 : decode cX9_stretch 36 = .ok (.if_icmp .ge 65, 3) := by decide +kernel
theorem dX9_stretch_39 : decode cX9_stretch 39 = .ok (.iconst 0, 1) := by decide +kernel
theorem dX9_stretch_40 : decode cX9_stretch 40 = .ok (.istore_n 3, 1) := by decide +kernel
theorem dX9_stretch_41 : decode cX9_stretch 41 = .ok (.iload_n 3, 1) := by decide +kernel
theorem dX9_stretch_42 : decode cX9_stretch 42 = .ok (.iload_n 1, 1) := by decide +kernel
theorem dX9_stretch_43 : decode cX9_stretch 43 = .ok (.if_icmp .ge 52, 3) := by decide +kernel
theorem dX9_stretch_46 : decode cX9_stretch 46 = .ok (.aload_n 0, 1) := by decide +kernel
theorem dX9_stretch_47 : decode cX9_stretch 47 = .ok (.getfield 18, 3) := by decide +kernel
theorem dX9_stretch_50 : decode cX9_stretch 50 = .ok (.getfield 157, 3) := by decide +kernel
theorem dX9_stretch_53 : decode cX9_stretch 53 = .ok (.iload_n 2, 1) := by decide +kernel
theorem dX9_stretch_54 : decode cX9_stretch 54 = .ok (.iaload, 1) := by decide +kernel
theorem dX9_stretch_55 : decode cX9_stretch 55 = .ok (.iload_n 3, 1) := by decide +kernel
theorem dX9_stretch_56 : decode cX9_stretch 56 = .ok (.iadd, 1) := by decide +kernel
theorem dX9_stretch_57 : decode cX9_stretch 57 = .ok (.bipush 10, 2) := by decide +kernel
theorem dX9_stretch_59 : decode cX9_stretch 59 = .ok (.irem, 1) := by decide +kernel
theorem dX9_stretch_60 : decode cX9_stretch 60 = .ok (.istore 4, 2) := by decide +kernel
theorem dX9_stretch_62 : decode cX9_stretch 62 = .ok (.aload_n 0, 1) := by decide +kernel
theorem dX9_stretch_63 : decode cX9_stretch 63 = .ok (.getfield 22, 3) := by decide +kernel
theorem dX9_stretch_66 : decode cX9_stretch 66 = .ok (.aload_n 0, 1) := by decide +kernel
theorem dX9_stretch_67 : decode cX9_stretch 67 = .ok (.getfield 18, 3) := by decide +kernel
theorem dX9_stretch_70 : decode cX9_stretch 70 = .ok (.getfield 154, 3) := by decide +kernel
theorem dX9_stretch_73 : decode cX9_stretch 73 = .ok (.iload_n 2, 1) := by decide +kernel
theorem dX9_stretch_74 : decode cX9_stretch 74 = .ok (.iaload, 1) := by decide +kernel
theorem dX9_stretch_75 : decode cX9_stretch 75 = .ok (.iload 4, 2) := by decide +kernel
theorem dX9_stretch_77 : decode cX9_stretch 77 = .ok (.aload_n 0, 1) := by decide +kernel
theorem dX9_stretch_78 : decode cX9_stretch 78 = .ok (.getfield 18, 3) := by decide +kernel
theorem dX9_stretch_81 : decode cX9_stretch 81 = .ok (.getfield 160, 3) := by decide +kernel
theorem dX9_stretch_84 : decode cX9_stretch 84 = .ok (.iload_n 2, 1) := by decide +kernel
theorem dX9_stretch_85 : decode cX9_stretch 85 = .ok (.iaload, 1) := by decide +kernel
theorem dX9_stretch_86 : decode cX9_stretch 86 = .ok (.invokevirtual 149, 3) := by decide +kernel
theorem dX9_stretch_89 : decode cX9_stretch 89 = .ok (.iinc 3 1, 3) := by decide +kernel
theorem dX9_stretch_92 : decode cX9_stretch 92 = .ok (.goto (-51), 3) := by decide +kernel
theorem dX9_stretch_95 : decode cX9_stretch 95 = .ok (.iinc 2 1, 3) := by decide +kernel
theorem dX9_stretch_98 : decode cX9_stretch 98 = .ok (.goto (-70), 3) := by decide +kernel
theorem dX9_stretch_101 : decode cX9_stretch 101 = .ok (.aload_n 0, 1) := by decide +kernel
theorem dX9_stretch_102 : decode cX9_stretch 102 = .ok (.getfield 22, 3) := by decide +kernel
theorem dX9_stretch_105 : decode cX9_stretch 105 = .ok (.getfield 137, 3) := by decide +kernel
theorem dX9_stretch_108 : decode cX9_stretch 108 = .ok (.ireturn, 1) := by decide +kernel
theorem dX9_house_0 : decode cX9_house 0 = .ok (.iload_n 1, 1) := by decide +kernel
theorem dX9_house_1 : decode cX9_house 1 = .ok (.iconst 1, 1) := by decide +kernel
theorem dX9_house_2 : decode cX9_house 2 = .ok (.if_icmp .lt 30, 3) := by decide +kernel
theorem dX9_house_5 : decode cX9_house 5 = .ok (.iload_n 1, 1) := by decide +kernel
theorem dX9_house_6 : decode cX9_house 6 = .ok (.bipush 6, 2) := by decide +kernel
theorem dX9_house_8 : decode cX9_house 8 = .ok (.if_icmp .gt 24, 3) := by decide +kernel
theorem dX9_house_11 : decode cX9_house 11 = .ok (.iload_n 2, 1) := by decide +kernel
theorem dX9_house_12 : decode cX9_house 12 = .ok (.iconst 1, 1) := by decide +kernel
theorem dX9_house_13 : decode cX9_house 13 = .ok (.if_icmp .lt 19, 3) := by decide +kernel
theorem dX9_house_16 : decode cX9_house 16 = .ok (.iload_n 2, 1) := by decide +kernel
theorem dX9_house_17 : decode cX9_house 17 = .ok (.bipush 9, 2) := by decide +kernel
theorem dX9_house_19 : decode cX9_house 19 = .ok (.if_icmp .gt 13, 3) := by decide +kernel
theorem dX9_house_22 : decode cX9_house 22 = .ok (.iload_n 3, 1) := by decide +kernel
theorem dX9_house_23 : decode cX9_house 23 = .ok (.ifCond .lt 9, 3) := by decide +kernel
theorem dX9_house_26 : decode cX9_house 26 = .ok (.iload_n 3, 1) := by decide +kernel
theorem dX9_house_27 : decode cX9_house 27 = .ok (.bipush 99, 2) := by decide +kernel
theorem dX9_house_29 : decode cX9_house 29 = .ok (.if_icmp .le 6, 3) := by decide +kernel
theorem dX9_house_32 : decode cX9_house 32 = .ok (.ldc 100, 2) := by decide +kernel
theorem dX9_house_34 : decode cX9_house 34 = .ok (.ireturn, 1) := by decide +kernel
theorem dX9_house_35 : decode cX9_house 35 = .ok (.aload_n 0, 1) := by decide +kernel
theorem dX9_house_36 : decode cX9_house 36 = .ok (.getfield 52, 3) := by decide +kernel
theorem dX9_house_39 : decode cX9_house 39 = .ok (.iload_n 1, 1) := by decide +kernel
theorem dX9_house_40 : decode cX9_house 40 = .ok (.putfield 212, 3) := by decide +kernel
theorem dX9_house_43 : decode cX9_house 43 = .ok (.aload_n 0, 1) := by decide +kernel
theorem dX9_house_44 : decode cX9_house 44 = .ok (.getfield 52, 3) := by decide +kernel
theorem dX9_house_47 : decode cX9_house 47 = .ok (.iload_n 2, 1) := by decide +kernel
theorem dX9_house_48 : decode cX9_house 48 = .ok (.putfield 215, 3) := by decide +kernel
theorem dX9_house_51 : decode cX9_house 51 = .ok (.aload_n 0, 1) := by decide +kernel
theorem dX9_house_52 : decode cX9_house 52 = .ok (.getfield 52, 3) := by decide +kernel
theorem dX9_house_55 : decode cX9_house 55 = .ok (.iload_n 3, 1) := by decide +kernel
theorem dX9_house_56 : decode cX9_house 56 = .ok (.putfield 218, 3) := by decide +kernel
theorem dX9_house_59 : decode cX9_house 59 = .ok (.iconst 1, 1) := by decide +kernel
theorem dX9_house_60 : decode cX9_house 60 = .ok (.ireturn, 1) := by decide +kernel
theorem dX9_number_0 : decode cX9_number 0 = .ok (.iload_n 1, 1) := by decide +kernel
theorem dX9_number_1 : decode cX9_number 1 = .ok (.iconst 4, 1) := by decide +kernel
theorem dX9_number_2 : decode cX9_number 2 = .ok (.invokestatic 96, 3) := by decide +kernel
theorem dX9_number_5 : decode cX9_number 5 = .ok (.ifCond .eq 19, 3) := by decide +kernel
theorem dX9_number_8 : decode cX9_number 8 = .ok (.iload_n 2, 1) := by decide +kernel
theorem dX9_number_9 : decode cX9_number 9 = .ok (.bipush 6, 2) := by decide +kernel
theorem dX9_number_11 : decode cX9_number 11 = .ok (.invokestatic 96, 3) := by decide +kernel
theorem dX9_number_14 : decode cX9_number 14 = .ok (.ifCond .eq 10, 3) := by decide +kernel
theorem dX9_number_17 : decode cX9_number 17 = .ok (.iload_n 3, 1) := by decide +kernel
theorem dX9_number_18 : decode cX9_number 18 = .ok (.invokestatic 221, 3) := by decide +kernel
theorem dX9_number_21 : decode cX9_number 21 = .ok (.ifCond .ne 6, 3) := by decide +kernel
theorem dX9_number_24 : decode cX9_number 24 = .ok (.ldc 100, 2) := by decide +kernel
theorem dX9_number_26 : decode cX9_number 26 = .ok (.ireturn, 1) := by decide +kernel
theorem dX9_number_27 : decode cX9_number 27 = .ok (.aload_n 0, 1) := by decide +kernel
theorem dX9_number_28 : decode cX9_number 28 = .ok (.getfield 59, 3) := by decide +kernel
theorem dX9_number_31 : decode cX9_number 31 = .ok (.aload_n 0, 1) := by decide +kernel
theorem dX9_number_32 : decode cX9_number 32 = .ok (.iload_n 1, 1) := by decide +kernel
theorem dX9_number_33 : decode cX9_number 33 = .ok (.invokevirtual 225, 3) := by decide +kernel
theorem dX9_number_36 : decode cX9_number 36 = .ok (.iload_n 2, 1) := by decide +kernel
theorem dX9_number_37 : decode cX9_number 37 = .ok (.aload_n 0, 1) := by decide +kernel
theorem dX9_number_38 : decode cX9_number 38 = .ok (.getfield 52, 3) := by decide +kernel
theorem dX9_number_41 : decode cX9_number 41 = .ok (.iload_n 3, 1) := by decide +kernel
theorem dX9_number_42 : decode cX9_number 42 = .ok (.invokevirtual 229, 3) := by decide +kernel
theorem dX9_number_45 : decode cX9_number 45 = .ok (.ireturn, 1) := by decide +kernel
theorem dX9_unlike_0 : decode cX9_unlike 0 = .ok (.iload_n 1, 1) := by decide +kernel
theorem dX9_unlike_1 : decode cX9_unlike 1 = .ok (.invokestatic 221, 3) := by decide +kernel
theorem dX9_unlike_4 : decode cX9_unlike 4 = .ok (.ifCond .ne 6, 3) := by decide +kernel
theorem dX9_unlike_7 : decode cX9_unlike 7 = .ok (.ldc 100, 2) := by decide +kernel
theorem dX9_unlike_9 : decode cX9_unlike 9 = .ok (.ireturn, 1) := by decide +kernel
theorem dX9_unlike_10 : decode cX9_unlike 10 = .ok (.aload_n 0, 1) := by decide +kernel
theorem dX9_unlike_11 : decode cX9_unlike 11 = .ok (.getfield 59, 3) := by decide +kernel
theorem dX9_unlike_14 : decode cX9_unlike 14 = .ok (.aload_n 0, 1) := by decide +kernel
theorem dX9_unlike_15 : decode cX9_unlike 15 = .ok (.getfield 18, 3) := by decide +kernel
theorem dX9_unlike_18 : decode cX9_unlike 18 = .ok (.aload_n 0, 1) := by decide +kernel
theorem dX9_unlike_19 : decode cX9_unlike 19 = .ok (.getfield 52, 3) := by decide +kernel
theorem dX9_unlike_22 : decode cX9_unlike 22 = .ok (.iload_n 1, 1) := by decide +kernel
theorem dX9_unlike_23 : decode cX9_unlike 23 = .ok (.invokevirtual 233, 3) := by decide +kernel
theorem dX9_unlike_26 : decode cX9_unlike 26 = .ok (.aload_n 0, 1) := by decide +kernel
theorem dX9_unlike_27 : decode cX9_unlike 27 = .ok (.getfield 59, 3) := by decide +kernel
theorem dX9_unlike_30 : decode cX9_unlike 30 = .ok (.aload_n 0, 1) := by decide +kernel
theorem dX9_unlike_31 : decode cX9_unlike 31 = .ok (.getfield 22, 3) := by decide +kernel
theorem dX9_unlike_34 : decode cX9_unlike 34 = .ok (.aload_n 0, 1) := by decide +kernel
theorem dX9_unlike_35 : decode cX9_unlike 35 = .ok (.getfield 52, 3) := by decide +kernel
theorem dX9_unlike_38 : decode cX9_unlike 38 = .ok (.iload_n 1, 1) := by decide +kernel
theorem dX9_unlike_39 : decode cX9_unlike 39 = .ok (.invokevirtual 237, 3) := by decide +kernel
theorem dX9_unlike_42 : decode cX9_unlike 42 = .ok (.ireturn, 1) := by decide +kernel
