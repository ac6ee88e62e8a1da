theorem dX2_init_0 : decode cX2_init 0 = .ok (.aload_n 0, 1) := by decide +kernel
theorem dX2_init_1 : decode cX2_init 1 = .ok (.invokespecial 3, 3) := by decide +kernel
theorem dX2_init_4 : decode cX2_init 4 = .ok (.aload_n 0, 1) := by decide +kernel
theorem dX2_init_5 : decode cX2_init 5 = .ok (.new 9, 3) := by decide +kernel
theorem dX2_init_8 : decode cX2_init 8 = .ok (.dup, 1) := by decide +kernel
theorem dX2_init_9 : decode cX2_init 9 = .ok (.invokespecial 11, 3) := by decide +kernel
theorem dX2_init_12 : decode cX2_init 12 = .ok (.putfield 12, 3) := by decide +kernel
theorem dX2_init_15 : decode cX2_init 15 = .ok (.aload_n 0, 1) := by decide +kernel
theorem dX2_init_16 : decode cX2_init 16 = .ok (.bipush 6, 2) := by decide +kernel
theorem dX2_init_18 : decode cX2_init 18 = .ok (.newarray .int, 2) := by decide +kernel
theorem dX2_init_20 : decode cX2_init 20 = .ok (.putfield 18, 3) := by decide +kernel
theorem dX2_init_23 : decode cX2_init 23 = .ok (.aload_n 0, 1) := by decide +kernel
theorem dX2_init_24 : decode cX2_init 24 = .ok (.bipush 6, 2) := by decide +kernel
theorem dX2_init_26 : decode cX2_init 26 = .ok (.newarray .int, 2) := by decide +kernel
theorem dX2_init_28 : decode cX2_init 28 = .ok (.putfield 22, 3) := by decide +kernel
theorem dX2_init_31 : decode cX2_init 31 = .ok (.aload_n 0, 1) := by decide +kernel
theorem dX2_init_32 : decode cX2_init 32 = .ok (.bipush 6, 2) := by decide +kernel
theorem dX2_init_34 : decode cX2_init 34 = .ok (.newarray .int, 2) := by decide +kernel
theorem dX2_init_36 : decode cX2_init 36 = .ok (.putfield 25, 3) := by decide +kernel
theorem dX2_init_39 : decode cX2_init 39 = .ok (.aload_n 0, 1) := by decide +kernel
theorem dX2_init_40 : decode cX2_init 40 = .ok (.bipush 6, 2) := by decide +kernel
theorem dX2_init_42 : decode cX2_init 42 = .ok (.newarray .int, 2) := by decide +kernel
theorem dX2_init_44 : decode cX2_init 44 = .ok (.putfield 28, 3) := by decide +kernel
theorem dX2_init_47 : decode cX2_init 47 = .ok (.return_, 1) := by decide +kernel
theorem dX2_numberOf_0 : decode cX2_numberOf 0 = .ok (.aload_n 3, 1) := by decide +kernel
theorem dX2_numberOf_1 : decode cX2_numberOf 1 = .ok (.aload_n 1, 1) := by decide +kernel
theorem dX2_numberOf_2 : decode cX2_numberOf 2 = .ok (.iload 4, 2) := by decide +kernel
theorem dX2_numberOf_4 : decode cX2_numberOf 4 = .ok (.aload_n 0, 1) := by decide +kernel
theorem dX2_numberOf_5 : decode cX2_numberOf 5 = .ok (.getfield 28, 3) := by decide +kernel
theorem dX2_numberOf_8 : decode cX2_numberOf 8 = .ok (.invokevirtual 31, 3) := by decide +kernel
theorem dX2_numberOf_11 : decode cX2_numberOf 11 = .ok (.iload_n 2, 1) := by decide +kernel
theorem dX2_numberOf_12 : decode cX2_numberOf 12 = .ok (.bipush 6, 2) := by decide +kernel
theorem dX2_numberOf_14 : decode cX2_numberOf 14 = .ok (.invokestatic 37, 3) := by decide +kernel
theorem dX2_numberOf_17 : decode cX2_numberOf 17 = .ok (.ifCond .eq 12, 3) := by decide +kernel
theorem dX2_numberOf_20 : decode cX2_numberOf 20 = .ok (.aload_n 0, 1) := by decide +kernel
theorem dX2_numberOf_21 : decode cX2_numberOf 21 = .ok (.getfield 28, 3) := by decide +kernel
theorem dX2_numberOf_24 : decode cX2_numberOf 24 = .ok (.iload_n 2, 1) := by decide +kernel
theorem dX2_numberOf_25 : decode cX2_numberOf 25 = .ok (.iaload, 1) := by decide +kernel
theorem dX2_numberOf_26 : decode cX2_numberOf 26 = .ok (.goto 4, 3) := by decide +kernel
theorem dX2_numberOf_29 : decode cX2_numberOf 29 = .ok (.iconst 0, 1) := by decide +kernel
theorem dX2_numberOf_30 : decode cX2_numberOf 30 = .ok (.ireturn, 1) := by decide +kernel
theorem dX2_stepTrue_0 : decode cX2_stepTrue 0 = .ok (.aload_n 2, 1) := by decide +kernel
theorem dX2_stepTrue_1 : decode cX2_stepTrue 1 = .ok (.aload_n 1, 1) := by decide +kernel
theorem dX2_stepTrue_2 : decode cX2_stepTrue 2 = .ok (.iload_n 3, 1) := by decide +kernel
theorem dX2_stepTrue_3 : decode cX2_stepTrue 3 = .ok (.aload_n 0, 1) := by decide +kernel
theorem dX2_stepTrue_4 : decode cX2_stepTrue 4 = .ok (.getfield 18, 3) := by decide +kernel
theorem dX2_stepTrue_7 : decode cX2_stepTrue 7 = .ok (.invokevirtual 31, 3) := by decide +kernel
theorem dX2_stepTrue_10 : decode cX2_stepTrue 10 = .ok (.aload_n 0, 1) := by decide +kernel
theorem dX2_stepTrue_11 : decode cX2_stepTrue 11 = .ok (.getfield 12, 3) := by decide +kernel
theorem dX2_stepTrue_14 : decode cX2_stepTrue 14 = .ok (.aload_n 1, 1) := by decide +kernel
theorem dX2_stepTrue_15 : decode cX2_stepTrue 15 = .ok (.iconst 0, 1) := by decide +kernel
theorem dX2_stepTrue_16 : decode cX2_stepTrue 16 = .ok (.invokevirtual 41, 3) := by decide +kernel
theorem dX2_stepTrue_19 : decode cX2_stepTrue 19 = .ok (.aload_n 2, 1) := by decide +kernel
theorem dX2_stepTrue_20 : decode cX2_stepTrue 20 = .ok (.aload_n 0, 1) := by decide +kernel
theorem dX2_stepTrue_21 : decode cX2_stepTrue 21 = .ok (.getfield 12, 3) := by decide +kernel
theorem dX2_stepTrue_24 : decode cX2_stepTrue 24 = .ok (.iload_n 3, 1) := by decide +kernel
theorem dX2_stepTrue_25 : decode cX2_stepTrue 25 = .ok (.aload_n 0, 1) := by decide +kernel
theorem dX2_stepTrue_26 : decode cX2_stepTrue 26 = .ok (.getfield 22, 3) := by decide +kernel
theorem dX2_stepTrue_29 : decode cX2_stepTrue 29 = .ok (.invokevirtual 31, 3) := by decide +kernel
theorem dX2_stepTrue_32 : decode cX2_stepTrue 32 = .ok (.aload_n 0, 1) := by decide +kernel
theorem dX2_stepTrue_33 : decode cX2_stepTrue 33 = .ok (.getfield 12, 3) := by decide +kernel
theorem dX2_stepTrue_36 : decode cX2_stepTrue 36 = .ok (.aload_n 1, 1) := by decide +kernel
theorem dX2_stepTrue_37 : decode cX2_stepTrue 37 = .ok (.iconst 1, 1) := by decide +kernel
theorem dX2_stepTrue_38 : decode cX2_stepTrue 38 = .ok (.invokevirtual 41, 3) := by decide +kernel
theorem dX2_stepTrue_41 : decode cX2_stepTrue 41 = .ok (.aload_n 2, 1) := by decide +kernel
theorem dX2_stepTrue_42 : decode cX2_stepTrue 42 = .ok (.aload_n 0, 1) := by decide +kernel
theorem dX2_stepTrue_43 : decode cX2_stepTrue 43 = .ok (.getfield 12, 3) := by decide +kernel
theorem dX2_stepTrue_46 : decode cX2_stepTrue 46 = .ok (.iload_n 3, 1) := by decide +kernel
theorem dX2_stepTrue_47 : decode cX2_stepTrue 47 = .ok (.aload_n 0, 1) := by decide +kernel
theorem dX2_stepTrue_48 : decode cX2_stepTrue 48 = .ok (.getfield 25, 3) := by decide +kernel
theorem dX2_stepTrue_51 : decode cX2_stepTrue 51 = .ok (.invokevirtual 31, 3) := by decide +kernel
theorem dX2_stepTrue_54 : decode cX2_stepTrue 54 = .ok (.return_, 1) := by decide +kernel
theorem dX2_unlikeIn_0 : decode cX2_unlikeIn 0 = .ok (.aload_n 2, 1) := by decide +kernel
theorem dX2_unlikeIn_1 : decode cX2_unlikeIn 1 = .ok (.aload_n 1, 1) := by decide +kernel
theorem dX2_unlikeIn_2 : decode cX2_unlikeIn 2 = .ok (.iload_n 3, 1) := by decide +kernel
theorem dX2_unlikeIn_3 : decode cX2_unlikeIn 3 = .ok (.aload_n 0, 1) := by decide +kernel
theorem dX2_unlikeIn_4 : decode cX2_unlikeIn 4 = .ok (.getfield 28, 3) := by decide +kernel
theorem dX2_unlikeIn_7 : decode cX2_unlikeIn 7 = .ok (.invokevirtual 31, 3) := by decide +kernel
theorem dX2_unlikeIn_10 : decode cX2_unlikeIn 10 = .ok (.iconst 0, 1) := by decide +kernel
theorem dX2_unlikeIn_11 : decode cX2_unlikeIn 11 = .ok (.istore 4, 2) := by decide +kernel
theorem dX2_unlikeIn_13 : decode cX2_unlikeIn 13 = .ok (.iconst 0, 1) := by decide +kernel
theorem dX2_unlikeIn_14 : decode cX2_unlikeIn 14 = .ok (.istore 5, 2) := by decide +kernel
theorem dX2_unlikeIn_16 : decode cX2_unlikeIn 16 = .ok (.iload 5, 2) := by decide +kernel
theorem dX2_unlikeIn_18 : decode cX2_unlikeIn 18 = .ok (.bipush 6, 2) := by decide +kernel
theorem dX2_unlikeIn_20 : decode cX2_unlikeIn 20 = .ok (.if_icmp .ge 61, 3) := by decide +kernel
theorem dX2_unlikeIn_23 : decode cX2_unlikeIn 23 = .ok (.aload_n 0, 1) := by decide +kernel
theorem dX2_unlikeIn_24 : decode cX2_unlikeIn 24 = .ok (.getfield 22, 3) := by decide +kernel
theorem dX2_unlikeIn_27 : decode cX2_unlikeIn 27 = .ok (.iload 5, 2) := by decide +kernel
theorem dX2_unlikeIn_29 : decode cX2_unlikeIn 29 = .ok (.iaload, 1) := by decide +kernel
theorem dX2_unlikeIn_30 : decode cX2_unlikeIn 30 = .ok (.aload_n 0, 1) := by decide +kernel
theorem dX2_unlikeIn_31 : decode cX2_unlikeIn 31 = .ok (.getfield 25, 3) := by decide +kernel
theorem dX2_unlikeIn_34 : decode cX2_unlikeIn 34 = .ok (.iload 5, 2) := by decide +kernel
theorem dX2_unlikeIn_36 : decode cX2_unlikeIn 36 = .ok (.iaload, 1) := by decide +kernel
theorem dX2_unlikeIn_37 : decode cX2_unlikeIn 37 = .ok (.isub, 1) := by decide +kernel
theorem dX2_unlikeIn_38 : decode cX2_unlikeIn 38 = .ok (.invokestatic 45, 3) := by decide +kernel
theorem dX2_unlikeIn_41 : decode cX2_unlikeIn 41 = .ok (.istore 6, 2) := by decide +kernel
theorem dX2_unlikeIn_43 : decode cX2_unlikeIn 43 = .ok (.aload_n 0, 1) := by decide +kernel
theorem dX2_unlikeIn_44 : decode cX2_unlikeIn 44 = .ok (.getfield 28, 3) := by decide +kernel
theorem dX2_unlikeIn_47 : decode cX2_unlikeIn 47 = .ok (.iload 5, 2) := by decide +kernel
theorem dX2_unlikeIn_49 : decode cX2_unlikeIn 49 = .ok (.iaload, 1) := by decide +kernel
theorem dX2_unlikeIn_50 : decode cX2_unlikeIn 50 = .ok (.aload_n 0, 1) := by decide +kernel
theorem dX2_unlikeIn_51 : decode cX2_unlikeIn 51 = .ok (.getfield 18, 3) := by decide +kernel
theorem dX2_unlikeIn_54 : decode cX2_unlikeIn 54 = .ok (.iload 5, 2) := by decide +kernel
theorem dX2_unlikeIn_56 : decode cX2_unlikeIn 56 = .ok (.iaload, 1) := by decide +kernel
theorem dX2_unlikeIn_57 : decode cX2_unlikeIn 57 = .ok (.isub, 1) := by decide +kernel
theorem dX2_unlikeIn_58 : decode cX2_unlikeIn 58 = .ok (.invokestatic 45, 3) := by decide +kernel
theorem dX2_unlikeIn_61 : decode cX2_unlikeIn 61 = .ok (.iload 6, 2) := by decide +kernel
theorem dX2_unlikeIn_63 : decode cX2_unlikeIn 63 = .ok (.if_icmp .le 12, 3) := by decide +kernel
theorem dX2_unlikeIn_66 : decode cX2_unlikeIn 66 = .ok (.iload 4, 2) := by decide +kernel
theorem dX2_unlikeIn_68 : decode cX2_unlikeIn 68 = .ok (.iconst 1, 1) := by decide +kernel
theorem dX2_unlikeIn_69 : decode cX2_unlikeIn 69 = .ok (.iload 5, 2) := by decide +kernel
theorem dX2_unlikeIn_71 : decode cX2_unlikeIn 71 = .ok (.ishl, 1) := by decide +kernel
theorem dX2_unlikeIn_72 : decode cX2_unlikeIn 72 = .ok (.ior, 1) := by decide +kernel
theorem dX2_unlikeIn_73 : decode cX2_unlikeIn 73 = .ok (.istore 4, 2) := by decide +kernel
theorem dX2_unlikeIn_75 : decode cX2_unlikeIn 75 = .ok (.iinc 5 1, 3) := by decide +kernel
theorem dX2_unlikeIn_78 : decode cX2_unlikeIn 78 = .ok (.goto (-62), 3) := by decide +kernel
theorem dX2_unlikeIn_81 : decode cX2_unlikeIn 81 = .ok (.iload 4, 2) := by decide +kernel
theorem dX2_unlikeIn_83 : decode cX2_unlikeIn 83 = .ok (.ireturn, 1) := by decide +kernel
theorem dX3_init_0 : decode cX3_init 0 = .ok (.aload_n 0, 1) := by decide +kernel
theorem dX3_init_1 : decode cX3_init 1 = .ok (.invokespecial 3, 3) := by decide +kernel
theorem dX3_init_4 : decode cX3_init 4 = .ok (.aload_n 0, 1) := by decide +kernel
theorem dX3_init_5 : decode cX3_init 5 = .ok (.lconst 0, 1) := by decide +kernel
theorem dX3_init_6 : decode cX3_init 6 = .ok (.putfield 9, 3) := by decide +kernel
theorem dX3_init_9 : decode cX3_init 9 = .ok (.aload_n 0, 1) := by decide +kernel
theorem dX3_init_10 : decode cX3_init 10 = .ok (.iconst 0, 1) := by decide +kernel
theorem dX3_init_11 : decode cX3_init 11 = .ok (.putfield 15, 3) := by decide +kernel
theorem dX3_init_14 : decode cX3_init 14 = .ok (.return_, 1) := by decide +kernel
theorem dX3_begin_0 : decode cX3_begin 0 = .ok (.aload_n 0, 1) := by decide +kernel
theorem dX3_begin_1 : decode cX3_begin 1 = .ok (.lload_n 1, 1) := by decide +kernel
theorem dX3_begin_2 : decode cX3_begin 2 = .ok (.putfield 9, 3) := by decide +kernel
theorem dX3_begin_5 : decode cX3_begin 5 = .ok (.aload_n 0, 1) := by decide +kernel
theorem dX3_begin_6 : decode cX3_begin 6 = .ok (.iconst 0, 1) := by decide +kernel
theorem dX3_begin_7 : decode cX3_begin 7 = .ok (.putfield 15, 3) := by decide +kernel
theorem dX3_begin_10 : decode cX3_begin 10 = .ok (.return_, 1) := by decide +kernel
theorem dX3_next_0 : decode cX3_next 0 = .ok (.aload_n 0, 1) := by decide +kernel
theorem dX3_next_1 : decode cX3_next 1 = .ok (.aload_n 0, 1) := by decide +kernel
theorem dX3_next_2 : decode cX3_next 2 = .ok (.getfield 9, 3) := by decide +kernel
theorem dX3_next_5 : decode cX3_next 5 = .ok (.ldc2_w 19, 3) := by decide +kernel
theorem dX3_next_8 : decode cX3_next 8 = .ok (.lmul, 1) := by decide +kernel
theorem dX3_next_9 : decode cX3_next 9 = .ok (.ldc2_w 21, 3) := by decide +kernel
theorem dX3_next_12 : decode cX3_next 12 = .ok (.ladd, 1) := by decide +kernel
theorem dX3_next_13 : decode cX3_next 13 = .ok (.putfield 9, 3) := by decide +kernel
theorem dX3_next_16 : decode cX3_next 16 = .ok (.aload_n 0, 1) := by decide +kernel
theorem dX3_next_17 : decode cX3_next 17 = .ok (.dup, 1) := by decide +kernel
theorem dX3_next_18 : decode cX3_next 18 = .ok (.getfield 15, 3) := by decide +kernel
theorem dX3_next_21 : decode cX3_next 21 = .ok (.iconst 1, 1) := by decide +kernel
theorem dX3_next_22 : decode cX3_next 22 = .ok (.iadd, 1) := by decide +kernel
theorem dX3_next_23 : decode cX3_next 23 = .ok (.putfield 15, 3) := by decide +kernel
theorem dX3_next_26 : decode cX3_next 26 = .ok (.aload_n 0, 1) := by decide +kernel
theorem dX3_next_27 : decode cX3_next 27 = .ok (.getfield 9, 3) := by decide +kernel
theorem dX3_next_30 : decode cX3_next 30 = .ok (.bipush 33, 2) := by decide +kernel
theorem dX3_next_32 : decode cX3_next 32 = .ok (.lushr, 1) := by decide +kernel
theorem dX3_next_33 : decode cX3_next 33 = .ok (.l2i, 1) := by decide +kernel
theorem dX3_next_34 : decode cX3_next 34 = .ok (.ireturn, 1) := by decide +kernel
theorem dX3_draw_0 : decode cX3_draw 0 = .ok (.iload_n 2, 1) := by decide +kernel
theorem dX3_draw_1 : decode cX3_draw 1 = .ok (.ifCond .lt 21, 3) := by decide +kernel
theorem dX3_draw_4 : decode cX3_draw 4 = .ok (.iload_n 3, 1) := by decide +kernel
theorem dX3_draw_5 : decode cX3_draw 5 = .ok (.ifCond .lt 17, 3) := by decide +kernel
theorem dX3_draw_8 : decode cX3_draw 8 = .ok (.iload_n 3, 1) := by decide +kernel
theorem dX3_draw_9 : decode cX3_draw 9 = .ok (.aload_n 1, 1) := by decide +kernel
theorem dX3_draw_10 : decode cX3_draw 10 = .ok (.arraylength, 1) := by decide +kernel
theorem dX3_draw_11 : decode cX3_draw 11 = .ok (.if_icmp .gt 11, 3) := by decide +kernel
theorem dX3_draw_14 : decode cX3_draw 14 = .ok (.iload_n 2, 1) := by decide +kernel
theorem dX3_draw_15 : decode cX3_draw 15 = .ok (.aload_n 1, 1) := by decide +kernel
theorem dX3_draw_16 : decode cX3_draw 16 = .ok (.arraylength, 1) := by decide +kernel
theorem dX3_draw_17 : decode cX3_draw 17 = .ok (.iload_n 3, 1) := by decide +kernel
theorem dX3_draw_18 : decode cX3_draw 18 = .ok (.isub, 1) := by decide +kernel
theorem dX3_draw_19 : decode cX3_draw 19 = .ok (.if_icmp .le 6, 3) := by decide +kernel
theorem dX3_draw_22 : decode cX3_draw 22 = .ok (.ldc 23, 2) := by decide +kernel
theorem dX3_draw_24 : decode cX3_draw 24 = .ok (.ireturn, 1) := by decide +kernel
theorem dX3_draw_25 : decode cX3_draw 25 = .ok (.iconst 0, 1) := by decide +kernel
theorem dX3_draw_26 : decode cX3_draw 26 = .ok (.istore 4, 2) := by decide +kernel
theorem dX3_draw_28 : decode cX3_draw 28 = .ok (.iconst 0, 1) := by decide +kernel
theorem dX3_draw_29 : decode cX3_draw 29 = .ok (.istore 5, 2) := by decide +kernel
theorem dX3_draw_31 : decode cX3_draw 31 = .ok (.iload 5, 2) := by decide +kernel
theorem dX3_draw_33 : decode cX3_draw 33 = .ok (.iload_n 3, 1) := by decide +kernel
theorem dX3_draw_34 : decode cX3_draw 34 = .ok (.if_icmp .ge 20, 3) := by decide +kernel
theorem dX3_draw_37 : decode cX3_draw 37 = .ok (.iload 4, 2) := by decide +kernel
theorem dX3_draw_39 : decode cX3_draw 39 = .ok (.aload_n 1, 1) := by decide +kernel
theorem dX3_draw_40 : decode cX3_draw 40 = .ok (.iload_n 2, 1) := by decide +kernel
theorem dX3_draw_41 : decode cX3_draw 41 = .ok (.iload 5, 2) := by decide +kernel
theorem dX3_draw_43 : decode cX3_draw 43 = .ok (.iadd, 1) := by decide +kernel
theorem dX3_draw_44 : decode cX3_draw 44 = .ok (.iaload, 1) := by decide +kernel
theorem dX3_draw_45 : decode cX3_draw 45 = .ok (.iadd, 1) := by decide +kernel
theorem dX3_draw_46 : decode cX3_draw 46 = .ok (.istore 4, 2) := by decide +kernel
theorem dX3_draw_48 : decode cX3_draw 48 = .ok (.iinc 5 1, 3) := by decide +kernel
theorem dX3_draw_51 : decode cX3_draw 51 = .ok (.goto (-20), 3) := by decide +kernel
theorem dX3_draw_54 : decode cX3_draw 54 = .ok (.iload 4, 2) := by decide +kernel
theorem dX3_draw_56 : decode cX3_draw 56 = .ok (.ifCond .gt 6, 3) := by decide +kernel
theorem dX3_draw_59 : decode cX3_draw 59 = .ok (.ldc 23, 2) := by decide +kernel
theorem dX3_draw_61 : decode cX3_draw 61 = .ok (.ireturn, 1) := by decide +kernel
theorem dX3_draw_62 : decode cX3_draw 62 = .ok (.aload_n 0, 1) := by decide +kernel
theorem dX3_draw_63 : decode cX3_draw 63 = .ok (.invokevirtual 24, 3) := by decide +kernel
theorem dX3_draw_66 : decode cX3_draw 66 = .ok (.iload 4, 2) := by decide +kernel
theorem dX3_draw_68 : decode cX3_draw 68 = .ok (.irem, 1) := by decide +kernel
theorem dX3_draw_69 : decode cX3_draw 69 = .ok (.istore 5, 2) := by decide +kernel
theorem dX3_draw_71 : decode cX3_draw 71 = .ok (.iconst 0, 1) := by decide +kernel
theorem dX3_draw_72 : decode cX3_draw 72 = .ok (.istore 6, 2) := by decide +kernel
theorem dX3_draw_74 : decode cX3_draw 74 = .ok (.iload 6, 2) := by decide +kernel
theorem dX3_draw_76 : decode cX3_draw 76 = .ok (.iload_n 3, 1) := by decide +kernel
theorem dX3_draw_77 : decode cX3_draw 77 = .ok (.if_icmp .ge 28, 3) := by decide +kernel
theorem dX3_draw_80 : decode cX3_draw 80 = .ok (.iload 5, 2) := by decide +kernel
theorem dX3_draw_82 : decode cX3_draw 82 = .ok (.aload_n 1, 1) := by decide +kernel
theorem dX3_draw_83 : decode cX3_draw 83 = .ok (.iload_n 2, 1) := by decide +kernel
theorem dX3_draw_84 : decode cX3_draw 84 = .ok (.iload 6, 2) := by decide +kernel
theorem dX3_draw_86 : decode cX3_draw 86 = .ok (.iadd, 1) := by decide +kernel
theorem dX3_draw_87 : decode cX3_draw 87 = .ok (.iaload, 1) := by decide +kernel
theorem dX3_draw_88 : decode cX3_draw 88 = .ok (.isub, 1) := by decide +kernel
theorem dX3_draw_89 : decode cX3_draw 89 = .ok (.istore 5, 2) := by decide +kernel
theorem dX3_draw_91 : decode cX3_draw 91 = .ok (.iload 5, 2) := by decide +kernel
theorem dX3_draw_93 : decode cX3_draw 93 = .ok (.ifCond .ge 6, 3) := by decide +kernel
theorem dX3_draw_96 : decode cX3_draw 96 = .ok (.iload 6, 2) := by decide +kernel
theorem dX3_draw_98 : decode cX3_draw 98 = .ok (.ireturn, 1) := by decide +kernel
theorem dX3_draw_99 : decode cX3_draw 99 = .ok (.iinc 6 1, 3) := by decide +kernel
theorem dX3_draw_102 : decode cX3_draw 102 = .ok (.goto (-28), 3) := by decide +kernel
theorem dX3_draw_105 : decode cX3_draw 105 = .ok (.ldc 23, 2) := by decide +kernel
theorem dX3_draw_107 : decode cX3_draw 107 = .ok (.ireturn, 1) := by decide +kernel
theorem dX4_init_0 : decode cX4_init 0 = .ok (.aload_n 0, 1) := by decide +kernel
theorem dX4_init_1 : decode cX4_init 1 = .ok (.invokespecial 3, 3) := by decide +kernel
theorem dX4_init_4 : decode cX4_init 4 = .ok (.aload_n 0, 1) := by decide +kernel
theorem dX4_init_5 : decode cX4_init 5 = .ok (.new 9, 3) := by decide +kernel
theorem dX4_init_8 : decode cX4_init 8 = .ok (.dup, 1) := by decide +kernel
theorem dX4_init_9 : decode cX4_init 9 = .ok (.invokespecial 11, 3) := by decide +kernel
theorem dX4_init_12 : decode cX4_init 12 = .ok (.putfield 12, 3) := by decide +kernel
theorem dX4_init_15 : decode cX4_init 15 = .ok (.aload_n 0, 1) := by decide +kernel
theorem dX4_init_16 : decode cX4_init 16 = .ok (.bipush 11, 2) := by decide +kernel
theorem dX4_init_18 : decode cX4_init 18 = .ok (.newarray .int, 2) := by decide +kernel
theorem dX4_init_20 : decode cX4_init 20 = .ok (.putfield 18, 3) := by decide +kernel
theorem dX4_init_23 : decode cX4_init 23 = .ok (.return_, 1) := by decide +kernel
theorem dX4_makeRow_0 : decode cX4_makeRow 0 = .ok (.aload_n 2, 1) := by decide +kernel
theorem dX4_makeRow_1 : decode cX4_makeRow 1 = .ok (.iconst 0, 1) := by decide +kernel
theorem dX4_makeRow_2 : decode cX4_makeRow 2 = .ok (.iload 6, 2) := by decide +kernel
theorem dX4_makeRow_4 : decode cX4_makeRow 4 = .ok (.invokevirtual 22, 3) := by decide +kernel
theorem dX4_makeRow_7 : decode cX4_makeRow 7 = .ok (.astore 7, 2) := by decide +kernel
theorem dX4_makeRow_9 : decode cX4_makeRow 9 = .ok (.aload_n 2, 1) := by decide +kernel
theorem dX4_makeRow_10 : decode cX4_makeRow 10 = .ok (.iconst 1, 1) := by decide +kernel
theorem dX4_makeRow_11 : decode cX4_makeRow 11 = .ok (.iload 6, 2) := by decide +kernel
theorem dX4_makeRow_13 : decode cX4_makeRow 13 = .ok (.invokevirtual 22, 3) := by decide +kernel
theorem dX4_makeRow_16 : decode cX4_makeRow 16 = .ok (.astore 8, 2) := by decide +kernel
theorem dX4_makeRow_18 : decode cX4_makeRow 18 = .ok (.aload_n 2, 1) := by decide +kernel
theorem dX4_makeRow_19 : decode cX4_makeRow 19 = .ok (.iconst 2, 1) := by decide +kernel
theorem dX4_makeRow_20 : decode cX4_makeRow 20 = .ok (.iload 6, 2) := by decide +kernel
theorem dX4_makeRow_22 : decode cX4_makeRow 22 = .ok (.invokevirtual 22, 3) := by decide +kernel
theorem dX4_makeRow_25 : decode cX4_makeRow 25 = .ok (.astore 9, 2) := by decide +kernel
theorem dX4_makeRow_27 : decode cX4_makeRow 27 = .ok (.aload_n 2, 1) := by decide +kernel
theorem dX4_makeRow_28 : decode cX4_makeRow 28 = .ok (.iconst 3, 1) := by decide +kernel
theorem dX4_makeRow_29 : decode cX4_makeRow 29 = .ok (.iload 6, 2) := by decide +kernel
theorem dX4_makeRow_31 : decode cX4_makeRow 31 = .ok (.invokevirtual 22, 3) := by decide +kernel
theorem dX4_makeRow_34 : decode cX4_makeRow 34 = .ok (.astore 10, 2) := by decide +kernel
theorem dX4_makeRow_36 : decode cX4_makeRow 36 = .ok (.aload_n 0, 1) := by decide +kernel
theorem dX4_makeRow_37 : decode cX4_makeRow 37 = .ok (.getfield 12, 3) := by decide +kernel
theorem dX4_makeRow_40 : decode cX4_makeRow 40 = .ok (.lload_n 3, 1) := by decide +kernel
theorem dX4_makeRow_41 : decode cX4_makeRow 41 = .ok (.invokevirtual 28, 3) := by decide +kernel
theorem dX4_makeRow_44 : decode cX4_makeRow 44 = .ok (.aload_n 1, 1) := by decide +kernel
theorem dX4_makeRow_45 : decode cX4_makeRow 45 = .ok (.iconst 0, 1) := by decide +kernel
theorem dX4_makeRow_46 : decode cX4_makeRow 46 = .ok (.putfield 32, 3) := by decide +kernel
theorem dX4_makeRow_49 : decode cX4_makeRow 49 = .ok (.iconst 0, 1) := by decide +kernel
theorem dX4_makeRow_50 : decode cX4_makeRow 50 = .ok (.istore 11, 2) := by decide +kernel
theorem dX4_makeRow_52 : decode cX4_makeRow 52 = .ok (.iconst 0, 1) := by decide +kernel
theorem dX4_makeRow_53 : decode cX4_makeRow 53 = .ok (.istore 12, 2) := by decide +kernel
theorem dX4_makeRow_55 : decode cX4_makeRow 55 = .ok (.iload 12, 2) := by decide +kernel
theorem dX4_makeRow_57 : decode cX4_makeRow 57 = .ok (.iload 5, 2) := by decide +kernel
theorem dX4_makeRow_59 : decode cX4_makeRow 59 = .ok (.if_icmp .ge 133, 3) := by decide +kernel
theorem dX4_makeRow_62 : decode cX4_makeRow 62 = .ok (.aload_n 0, 1) := by decide +kernel
theorem dX4_makeRow_63 : decode cX4_makeRow 63 = .ok (.getfield 12, 3) := by decide +kernel
theorem dX4_makeRow_66 : decode cX4_makeRow 66 = .ok (.aload 7, 2) := by decide +kernel
theorem dX4_makeRow_68 : decode cX4_makeRow 68 = .ok (.iconst 0, 1) := by decide +kernel
theorem dX4_makeRow_69 : decode cX4_makeRow 69 = .ok (.bipush 11, 2) := by decide +kernel
theorem dX4_makeRow_71 : decode cX4_makeRow 71 = .ok (.invokevirtual 38, 3) := by decide +kernel
theorem dX4_makeRow_74 : decode cX4_makeRow 74 = .ok (.istore 13, 2) := by decide +kernel
theorem dX4_makeRow_76 : decode cX4_makeRow 76 = .ok (.aload_n 1, 1) := by decide +kernel
theorem dX4_makeRow_77 : decode cX4_makeRow 77 = .ok (.invokevirtual 42, 3) := by decide +kernel
theorem dX4_makeRow_80 : decode cX4_makeRow 80 = .ok (.iload 13, 2) := by decide +kernel
theorem dX4_makeRow_82 : decode cX4_makeRow 82 = .ok (.ldc 46, 2) := by decide +kernel
theorem dX4_makeRow_84 : decode cX4_makeRow 84 = .ok (.if_icmp .ne 7, 3) := by decide +kernel
theorem dX4_makeRow_87 : decode cX4_makeRow 87 = .ok (.iconst 1, 1) := by decide +kernel
theorem dX4_makeRow_88 : decode cX4_makeRow 88 = .ok (.goto 5, 3) := by decide +kernel
theorem dX4_makeRow_91 : decode cX4_makeRow 91 = .ok (.iload 13, 2) := by decide +kernel
theorem dX4_makeRow_93 : decode cX4_makeRow 93 = .ok (.iadd, 1) := by decide +kernel
theorem dX4_makeRow_94 : decode cX4_makeRow 94 = .ok (.sipush 9999, 3) := by decide +kernel
theorem dX4_makeRow_97 : decode cX4_makeRow 97 = .ok (.invokestatic 47, 3) := by decide +kernel
theorem dX4_makeRow_100 : decode cX4_makeRow 100 = .ok (.istore 14, 2) := by decide +kernel
theorem dX4_makeRow_102 : decode cX4_makeRow 102 = .ok (.aload_n 0, 1) := by decide +kernel
theorem dX4_makeRow_103 : decode cX4_makeRow 103 = .ok (.aload_n 1, 1) := by decide +kernel
theorem dX4_makeRow_104 : decode cX4_makeRow 104 = .ok (.aload 8, 2) := by decide +kernel
theorem dX4_makeRow_106 : decode cX4_makeRow 106 = .ok (.invokevirtual 53, 3) := by decide +kernel
theorem dX4_makeRow_109 : decode cX4_makeRow 109 = .ok (.istore 15, 2) := by decide +kernel
theorem dX4_makeRow_111 : decode cX4_makeRow 111 = .ok (.aload_n 0, 1) := by decide +kernel
theorem dX4_makeRow_112 : decode cX4_makeRow 112 = .ok (.getfield 12, 3) := by decide +kernel
theorem dX4_makeRow_115 : decode cX4_makeRow 115 = .ok (.aload 9, 2) := by decide +kernel
theorem dX4_makeRow_117 : decode cX4_makeRow 117 = .ok (.iconst 0, 1) := by decide +kernel
theorem dX4_makeRow_118 : decode cX4_makeRow 118 = .ok (.bipush 11, 2) := by decide +kernel
theorem dX4_makeRow_120 : decode cX4_makeRow 120 = .ok (.invokevirtual 38, 3) := by decide +kernel
theorem dX4_makeRow_123 : decode cX4_makeRow 123 = .ok (.istore 16, 2) := by decide +kernel
theorem dX4_makeRow_125 : decode cX4_makeRow 125 = .ok (.aload_n 1, 1) := by decide +kernel
theorem dX4_makeRow_126 : decode cX4_makeRow 126 = .ok (.iload 14, 2) := by decide +kernel
theorem dX4_makeRow_128 : decode cX4_makeRow 128 = .ok (.iload 15, 2) := by decide +kernel
theorem dX4_makeRow_130 : decode cX4_makeRow 130 = .ok (.iload 16, 2) := by decide +kernel
theorem dX4_makeRow_132 : decode cX4_makeRow 132 = .ok (.ldc 46, 2) := by decide +kernel
theorem dX4_makeRow_134 : decode cX4_makeRow 134 = .ok (.if_icmp .ne 7, 3) := by decide +kernel
theorem dX4_makeRow_137 : decode cX4_makeRow 137 = .ok (.iconst 1, 1) := by decide +kernel
theorem dX4_makeRow_138 : decode cX4_makeRow 138 = .ok (.goto 5, 3) := by decide +kernel
theorem dX4_makeRow_141 : decode cX4_makeRow 141 = .ok (.iload 16, 2) := by decide +kernel
theorem dX4_makeRow_143 : decode cX4_makeRow 143 = .ok (.iload 11, 2) := by decide +kernel
theorem dX4_makeRow_145 : decode cX4_makeRow 145 = .ok (.iadd, 1) := by decide +kernel
theorem dX4_makeRow_146 : decode cX4_makeRow 146 = .ok (.bipush 9, 2) := by decide +kernel
theorem dX4_makeRow_148 : decode cX4_makeRow 148 = .ok (.invokestatic 47, 3) := by decide +kernel
theorem dX4_makeRow_151 : decode cX4_makeRow 151 = .ok (.invokevirtual 57, 3) := by decide +kernel
theorem dX4_makeRow_154 : decode cX4_makeRow 154 = .ok (.aload_n 0, 1) := by decide +kernel
theorem dX4_makeRow_155 : decode cX4_makeRow 155 = .ok (.getfield 12, 3) := by decide +kernel
theorem dX4_makeRow_158 : decode cX4_makeRow 158 = .ok (.aload 10, 2) := by decide +kernel
theorem dX4_makeRow_160 : decode cX4_makeRow 160 = .ok (.iconst 3, 1) := by decide +kernel
theorem dX4_makeRow_161 : decode cX4_makeRow 161 = .ok (.iload 11, 2) := by decide +kernel
theorem dX4_makeRow_163 : decode cX4_makeRow 163 = .ok (.imul, 1) := by decide +kernel
theorem dX4_makeRow_164 : decode cX4_makeRow 164 = .ok (.iconst 3, 1) := by decide +kernel
theorem dX4_makeRow_165 : decode cX4_makeRow 165 = .ok (.invokevirtual 38, 3) := by decide +kernel
theorem dX4_makeRow_168 : decode cX4_makeRow 168 = .ok (.istore 17, 2) := by decide +kernel
theorem dX4_makeRow_170 : decode cX4_makeRow 170 = .ok (.iload 17, 2) := by decide +kernel
theorem dX4_makeRow_172 : decode cX4_makeRow 172 = .ok (.ldc 46, 2) := by decide +kernel
theorem dX4_makeRow_174 : decode cX4_makeRow 174 = .ok (.if_icmp .ne 8, 3) := by decide +kernel
theorem dX4_makeRow_177 : decode cX4_makeRow 177 = .ok (.iload 11, 2) := by decide +kernel
theorem dX4_makeRow_179 : decode cX4_makeRow 179 = .ok (.goto 5, 3) := by decide +kernel
theorem dX4_makeRow_182 : decode cX4_makeRow 182 = .ok (.iload 17, 2) := by decide +kernel
theorem dX4_makeRow_184 : decode cX4_makeRow 184 = .ok (.istore 11, 2) := by decide +kernel
theorem dX4_makeRow_186 : decode cX4_makeRow 186 = .ok (.iinc 12 1, 3) := by decide +kernel
theorem dX4_makeRow_189 : decode cX4_makeRow 189 = .ok (.goto (-134), 3) := by decide +kernel
theorem dX4_makeRow_192 : decode cX4_makeRow 192 = .ok (.aload_n 0, 1) := by decide +kernel
theorem dX4_makeRow_193 : decode cX4_makeRow 193 = .ok (.getfield 12, 3) := by decide +kernel
theorem dX4_makeRow_196 : decode cX4_makeRow 196 = .ok (.getfield 61, 3) := by decide +kernel
theorem dX4_makeRow_199 : decode cX4_makeRow 199 = .ok (.ireturn, 1) := by decide +kernel
