theorem dX0_init_0 : decode cX0_init 0 = .ok (.aload_n 0, 1) := by decide +kernel
theorem dX0_init_1 : decode cX0_init 1 = .ok (.invokespecial 3, 3) := by decide +kernel
theorem dX0_init_4 : decode cX0_init 4 = .ok (.aload_n 0, 1) := by decide +kernel
theorem dX0_init_5 : decode cX0_init 5 = .ok (.bipush 16, 2) := by decide +kernel
theorem dX0_init_7 : decode cX0_init 7 = .ok (.newarray .int, 2) := by decide +kernel
theorem dX0_init_9 : decode cX0_init 9 = .ok (.putfield 9, 3) := by decide +kernel
theorem dX0_init_12 : decode cX0_init 12 = .ok (.aload_n 0, 1) := by decide +kernel
theorem dX0_init_13 : decode cX0_init 13 = .ok (.iconst 0, 1) := by decide +kernel
theorem dX0_init_14 : decode cX0_init 14 = .ok (.putfield 15, 3) := by decide +kernel
theorem dX0_init_17 : decode cX0_init 17 = .ok (.aload_n 0, 1) := by decide +kernel
theorem dX0_init_18 : decode cX0_init 18 = .ok (.iconst 0, 1) := by decide +kernel
theorem dX0_init_19 : decode cX0_init 19 = .ok (.putfield 19, 3) := by decide +kernel
theorem dX0_init_22 : decode cX0_init 22 = .ok (.aload_n 0, 1) := by decide +kernel
theorem dX0_init_23 : decode cX0_init 23 = .ok (.iconst 5, 1) := by decide +kernel
theorem dX0_init_24 : decode cX0_init 24 = .ok (.putfield 22, 3) := by decide +kernel
theorem dX0_init_27 : decode cX0_init 27 = .ok (.aload_n 0, 1) := by decide +kernel
theorem dX0_init_28 : decode cX0_init 28 = .ok (.iconst 0, 1) := by decide +kernel
theorem dX0_init_29 : decode cX0_init 29 = .ok (.putfield 25, 3) := by decide +kernel
theorem dX0_init_32 : decode cX0_init 32 = .ok (.aload_n 0, 1) := by decide +kernel
theorem dX0_init_33 : decode cX0_init 33 = .ok (.iconst 0, 1) := by decide +kernel
theorem dX0_init_34 : decode cX0_init 34 = .ok (.putfield 28, 3) := by decide +kernel
theorem dX0_init_37 : decode cX0_init 37 = .ok (.return_, 1) := by decide +kernel
theorem dX0_begin_0 : decode cX0_begin 0 = .ok (.aload_n 0, 1) := by decide +kernel
theorem dX0_begin_1 : decode cX0_begin 1 = .ok (.iconst 0, 1) := by decide +kernel
theorem dX0_begin_2 : decode cX0_begin 2 = .ok (.putfield 15, 3) := by decide +kernel
theorem dX0_begin_5 : decode cX0_begin 5 = .ok (.aload_n 0, 1) := by decide +kernel
theorem dX0_begin_6 : decode cX0_begin 6 = .ok (.iload_n 1, 1) := by decide +kernel
theorem dX0_begin_7 : decode cX0_begin 7 = .ok (.putfield 19, 3) := by decide +kernel
theorem dX0_begin_10 : decode cX0_begin 10 = .ok (.aload_n 0, 1) := by decide +kernel
theorem dX0_begin_11 : decode cX0_begin 11 = .ok (.aload_n 2, 1) := by decide +kernel
theorem dX0_begin_12 : decode cX0_begin 12 = .ok (.iload_n 1, 1) := by decide +kernel
theorem dX0_begin_13 : decode cX0_begin 13 = .ok (.invokevirtual 31, 3) := by decide +kernel
theorem dX0_begin_16 : decode cX0_begin 16 = .ok (.putfield 22, 3) := by decide +kernel
theorem dX0_begin_19 : decode cX0_begin 19 = .ok (.aload_n 0, 1) := by decide +kernel
theorem dX0_begin_20 : decode cX0_begin 20 = .ok (.aload_n 2, 1) := by decide +kernel
theorem dX0_begin_21 : decode cX0_begin 21 = .ok (.getfield 37, 3) := by decide +kernel
theorem dX0_begin_24 : decode cX0_begin 24 = .ok (.iload_n 1, 1) := by decide +kernel
theorem dX0_begin_25 : decode cX0_begin 25 = .ok (.aaload, 1) := by decide +kernel
theorem dX0_begin_26 : decode cX0_begin 26 = .ok (.invokestatic 41, 3) := by decide +kernel
theorem dX0_begin_29 : decode cX0_begin 29 = .ok (.putfield 25, 3) := by decide +kernel
theorem dX0_begin_32 : decode cX0_begin 32 = .ok (.aload_n 0, 1) := by decide +kernel
theorem dX0_begin_33 : decode cX0_begin 33 = .ok (.iload_n 3, 1) := by decide +kernel
theorem dX0_begin_34 : decode cX0_begin 34 = .ok (.putfield 28, 3) := by decide +kernel
theorem dX0_begin_37 : decode cX0_begin 37 = .ok (.return_, 1) := by decide +kernel
theorem dX0_askSize_0 : decode cX0_askSize 0 = .ok (.aload_n 0, 1) := by decide +kernel
theorem dX0_askSize_1 : decode cX0_askSize 1 = .ok (.getfield 22, 3) := by decide +kernel
theorem dX0_askSize_4 : decode cX0_askSize 4 = .ok (.tableswitch 52 2 5 #[32, 37, 42, 47], 32) := by decide +kernel
theorem dX0_askSize_36 : decode cX0_askSize 36 = .ok (.aload_n 0, 1) := by decide +kernel
theorem dX0_askSize_37 : decode cX0_askSize 37 = .ok (.invokevirtual 45, 3) := by decide +kernel
theorem dX0_askSize_40 : decode cX0_askSize 40 = .ok (.ireturn, 1) := by decide +kernel
theorem dX0_askSize_41 : decode cX0_askSize 41 = .ok (.aload_n 0, 1) := by decide +kernel
theorem dX0_askSize_42 : decode cX0_askSize 42 = .ok (.invokevirtual 49, 3) := by decide +kernel
theorem dX0_askSize_45 : decode cX0_askSize 45 = .ok (.ireturn, 1) := by decide +kernel
theorem dX0_askSize_46 : decode cX0_askSize 46 = .ok (.aload_n 0, 1) := by decide +kernel
theorem dX0_askSize_47 : decode cX0_askSize 47 = .ok (.invokevirtual 52, 3) := by decide +kernel
theorem dX0_askSize_50 : decode cX0_askSize 50 = .ok (.ireturn, 1) := by decide +kernel
theorem dX0_askSize_51 : decode cX0_askSize 51 = .ok (.aload_n 0, 1) := by decide +kernel
theorem dX0_askSize_52 : decode cX0_askSize 52 = .ok (.invokevirtual 55, 3) := by decide +kernel
theorem dX0_askSize_55 : decode cX0_askSize 55 = .ok (.ireturn, 1) := by decide +kernel
theorem dX0_askSize_56 : decode cX0_askSize 56 = .ok (.aload_n 0, 1) := by decide +kernel
theorem dX0_askSize_57 : decode cX0_askSize 57 = .ok (.invokevirtual 58, 3) := by decide +kernel
theorem dX0_askSize_60 : decode cX0_askSize 60 = .ok (.ireturn, 1) := by decide +kernel
theorem dX0_askMark_0 : decode cX0_askMark 0 = .ok (.aload_n 0, 1) := by decide +kernel
theorem dX0_askMark_1 : decode cX0_askMark 1 = .ok (.getfield 22, 3) := by decide +kernel
theorem dX0_askMark_4 : decode cX0_askMark 4 = .ok (.tableswitch 43 2 4 #[28, 33, 38], 28) := by decide +kernel
theorem dX0_askMark_32 : decode cX0_askMark 32 = .ok (.aload_n 0, 1) := by decide +kernel
theorem dX0_askMark_33 : decode cX0_askMark 33 = .ok (.invokevirtual 61, 3) := by decide +kernel
theorem dX0_askMark_36 : decode cX0_askMark 36 = .ok (.ireturn, 1) := by decide +kernel
theorem dX0_askMark_37 : decode cX0_askMark 37 = .ok (.aload_n 0, 1) := by decide +kernel
theorem dX0_askMark_38 : decode cX0_askMark 38 = .ok (.invokevirtual 64, 3) := by decide +kernel
theorem dX0_askMark_41 : decode cX0_askMark 41 = .ok (.ireturn, 1) := by decide +kernel
theorem dX0_askMark_42 : decode cX0_askMark 42 = .ok (.aload_n 0, 1) := by decide +kernel
theorem dX0_askMark_43 : decode cX0_askMark 43 = .ok (.invokevirtual 67, 3) := by decide +kernel
theorem dX0_askMark_46 : decode cX0_askMark 46 = .ok (.ireturn, 1) := by decide +kernel
theorem dX0_askMark_47 : decode cX0_askMark 47 = .ok (.aload_n 0, 1) := by decide +kernel
theorem dX0_askMark_48 : decode cX0_askMark 48 = .ok (.invokevirtual 70, 3) := by decide +kernel
theorem dX0_askMark_51 : decode cX0_askMark 51 = .ok (.ireturn, 1) := by decide +kernel
theorem dX0_leaveNumber_0 : decode cX0_leaveNumber 0 = .ok (.aload_n 0, 1) := by decide +kernel
theorem dX0_leaveNumber_1 : decode cX0_leaveNumber 1 = .ok (.getfield 15, 3) := by decide +kernel
theorem dX0_leaveNumber_4 : decode cX0_leaveNumber 4 = .ok (.ifCond .lt 35, 3) := by decide +kernel
theorem dX0_leaveNumber_7 : decode cX0_leaveNumber 7 = .ok (.aload_n 0, 1) := by decide +kernel
theorem dX0_leaveNumber_8 : decode cX0_leaveNumber 8 = .ok (.getfield 15, 3) := by decide +kernel
theorem dX0_leaveNumber_11 : decode cX0_leaveNumber 11 = .ok (.aload_n 0, 1) := by decide +kernel
theorem dX0_leaveNumber_12 : decode cX0_leaveNumber 12 = .ok (.getfield 9, 3) := by decide +kernel
theorem dX0_leaveNumber_15 : decode cX0_leaveNumber 15 = .ok (.arraylength, 1) := by decide +kernel
theorem dX0_leaveNumber_16 : decode cX0_leaveNumber 16 = .ok (.if_icmp .ge 23, 3) := by decide +kernel
theorem dX0_leaveNumber_19 : decode cX0_leaveNumber 19 = .ok (.aload_n 0, 1) := by decide +kernel
theorem dX0_leaveNumber_20 : decode cX0_leaveNumber 20 = .ok (.getfield 9, 3) := by decide +kernel
theorem dX0_leaveNumber_23 : decode cX0_leaveNumber 23 = .ok (.aload_n 0, 1) := by decide +kernel
theorem dX0_leaveNumber_24 : decode cX0_leaveNumber 24 = .ok (.getfield 15, 3) := by decide +kernel
theorem dX0_leaveNumber_27 : decode cX0_leaveNumber 27 = .ok (.iload_n 1, 1) := by decide +kernel
theorem dX0_leaveNumber_28 : decode cX0_leaveNumber 28 = .ok (.iastore, 1) := by decide +kernel
theorem dX0_leaveNumber_29 : decode cX0_leaveNumber 29 = .ok (.aload_n 0, 1) := by decide +kernel
theorem dX0_leaveNumber_30 : decode cX0_leaveNumber 30 = .ok (.dup, 1) := by decide +kernel
theorem dX0_leaveNumber_31 : decode cX0_leaveNumber 31 = .ok (.getfield 15, 3) := by decide +kernel
theorem dX0_leaveNumber_34 : decode cX0_leaveNumber 34 = .ok (.iconst 1, 1) := by decide +kernel
theorem dX0_leaveNumber_35 : decode cX0_leaveNumber 35 = .ok (.iadd, 1) := by decide +kernel
theorem dX0_leaveNumber_36 : decode cX0_leaveNumber 36 = .ok (.putfield 15, 3) := by decide +kernel
theorem dX0_leaveNumber_39 : decode cX0_leaveNumber 39 = .ok (.return_, 1) := by decide +kernel
theorem dX0_body10_0 : decode cX0_body10 0 = .ok (.aload_n 0, 1) := by decide +kernel
theorem dX0_body10_1 : decode cX0_body10 1 = .ok (.bipush 10, 2) := by decide +kernel
theorem dX0_body10_3 : decode cX0_body10 3 = .ok (.invokevirtual 73, 3) := by decide +kernel
theorem dX0_body10_6 : decode cX0_body10 6 = .ok (.aload_n 0, 1) := by decide +kernel
theorem dX0_body10_7 : decode cX0_body10 7 = .ok (.getfield 25, 3) := by decide +kernel
theorem dX0_body10_10 : decode cX0_body10 10 = .ok (.ireturn, 1) := by decide +kernel
theorem dX0_body11_0 : decode cX0_body11 0 = .ok (.aload_n 0, 1) := by decide +kernel
theorem dX0_body11_1 : decode cX0_body11 1 = .ok (.bipush 11, 2) := by decide +kernel
theorem dX0_body11_3 : decode cX0_body11 3 = .ok (.invokevirtual 73, 3) := by decide +kernel
theorem dX0_body11_6 : decode cX0_body11 6 = .ok (.aload_n 0, 1) := by decide +kernel
theorem dX0_body11_7 : decode cX0_body11 7 = .ok (.invokevirtual 58, 3) := by decide +kernel
theorem dX0_body11_10 : decode cX0_body11 10 = .ok (.istore_n 1, 1) := by decide +kernel
theorem dX0_body11_11 : decode cX0_body11 11 = .ok (.iload_n 1, 1) := by decide +kernel
theorem dX0_body11_12 : decode cX0_body11 12 = .ok (.aload_n 0, 1) := by decide +kernel
theorem dX0_body11_13 : decode cX0_body11 13 = .ok (.invokevirtual 77, 3) := by decide +kernel
theorem dX0_body11_16 : decode cX0_body11 16 = .ok (.iadd, 1) := by decide +kernel
theorem dX0_body11_17 : decode cX0_body11 17 = .ok (.ireturn, 1) := by decide +kernel
theorem dX0_body12_0 : decode cX0_body12 0 = .ok (.aload_n 0, 1) := by decide +kernel
theorem dX0_body12_1 : decode cX0_body12 1 = .ok (.bipush 12, 2) := by decide +kernel
theorem dX0_body12_3 : decode cX0_body12 3 = .ok (.invokevirtual 73, 3) := by decide +kernel
theorem dX0_body12_6 : decode cX0_body12 6 = .ok (.iconst 2, 1) := by decide +kernel
theorem dX0_body12_7 : decode cX0_body12 7 = .ok (.aload_n 0, 1) := by decide +kernel
theorem dX0_body12_8 : decode cX0_body12 8 = .ok (.invokevirtual 58, 3) := by decide +kernel
theorem dX0_body12_11 : decode cX0_body12 11 = .ok (.imul, 1) := by decide +kernel
theorem dX0_body12_12 : decode cX0_body12 12 = .ok (.ireturn, 1) := by decide +kernel
theorem dX0_body13_0 : decode cX0_body13 0 = .ok (.aload_n 0, 1) := by decide +kernel
theorem dX0_body13_1 : decode cX0_body13 1 = .ok (.bipush 13, 2) := by decide +kernel
theorem dX0_body13_3 : decode cX0_body13 3 = .ok (.invokevirtual 73, 3) := by decide +kernel
theorem dX0_body13_6 : decode cX0_body13 6 = .ok (.aload_n 0, 1) := by decide +kernel
theorem dX0_body13_7 : decode cX0_body13 7 = .ok (.invokevirtual 49, 3) := by decide +kernel
theorem dX0_body13_10 : decode cX0_body13 10 = .ok (.istore_n 1, 1) := by decide +kernel
theorem dX0_body13_11 : decode cX0_body13 11 = .ok (.iload_n 1, 1) := by decide +kernel
theorem dX0_body13_12 : decode cX0_body13 12 = .ok (.aload_n 0, 1) := by decide +kernel
theorem dX0_body13_13 : decode cX0_body13 13 = .ok (.invokevirtual 77, 3) := by decide +kernel
theorem dX0_body13_16 : decode cX0_body13 16 = .ok (.isub, 1) := by decide +kernel
theorem dX0_body13_17 : decode cX0_body13 17 = .ok (.ireturn, 1) := by decide +kernel
theorem dX0_body14_0 : decode cX0_body14 0 = .ok (.aload_n 0, 1) := by decide +kernel
theorem dX0_body14_1 : decode cX0_body14 1 = .ok (.bipush 14, 2) := by decide +kernel
theorem dX0_body14_3 : decode cX0_body14 3 = .ok (.invokevirtual 73, 3) := by decide +kernel
theorem dX0_body14_6 : decode cX0_body14 6 = .ok (.aload_n 0, 1) := by decide +kernel
theorem dX0_body14_7 : decode cX0_body14 7 = .ok (.invokevirtual 58, 3) := by decide +kernel
theorem dX0_body14_10 : decode cX0_body14 10 = .ok (.ineg, 1) := by decide +kernel
theorem dX0_body14_11 : decode cX0_body14 11 = .ok (.ireturn, 1) := by decide +kernel
theorem dX0_body20_0 : decode cX0_body20 0 = .ok (.aload_n 0, 1) := by decide +kernel
theorem dX0_body20_1 : decode cX0_body20 1 = .ok (.bipush 20, 2) := by decide +kernel
theorem dX0_body20_3 : decode cX0_body20 3 = .ok (.invokevirtual 73, 3) := by decide +kernel
theorem dX0_body20_6 : decode cX0_body20 6 = .ok (.aload_n 0, 1) := by decide +kernel
theorem dX0_body20_7 : decode cX0_body20 7 = .ok (.getfield 19, 3) := by decide +kernel
theorem dX0_body20_10 : decode cX0_body20 10 = .ok (.ireturn, 1) := by decide +kernel
theorem dX0_body21_0 : decode cX0_body21 0 = .ok (.aload_n 0, 1) := by decide +kernel
theorem dX0_body21_1 : decode cX0_body21 1 = .ok (.bipush 21, 2) := by decide +kernel
theorem dX0_body21_3 : decode cX0_body21 3 = .ok (.invokevirtual 73, 3) := by decide +kernel
theorem dX0_body21_6 : decode cX0_body21 6 = .ok (.aload_n 0, 1) := by decide +kernel
theorem dX0_body21_7 : decode cX0_body21 7 = .ok (.invokevirtual 70, 3) := by decide +kernel
theorem dX0_body21_10 : decode cX0_body21 10 = .ok (.aload_n 0, 1) := by decide +kernel
theorem dX0_body21_11 : decode cX0_body21 11 = .ok (.getfield 28, 3) := by decide +kernel
theorem dX0_body21_14 : decode cX0_body21 14 = .ok (.iadd, 1) := by decide +kernel
theorem dX0_body21_15 : decode cX0_body21 15 = .ok (.ireturn, 1) := by decide +kernel
theorem dX0_body22_0 : decode cX0_body22 0 = .ok (.aload_n 0, 1) := by decide +kernel
theorem dX0_body22_1 : decode cX0_body22 1 = .ok (.bipush 22, 2) := by decide +kernel
theorem dX0_body22_3 : decode cX0_body22 3 = .ok (.invokevirtual 73, 3) := by decide +kernel
theorem dX0_body22_6 : decode cX0_body22 6 = .ok (.aload_n 0, 1) := by decide +kernel
theorem dX0_body22_7 : decode cX0_body22 7 = .ok (.invokevirtual 70, 3) := by decide +kernel
theorem dX0_body22_10 : decode cX0_body22 10 = .ok (.bipush 100, 2) := by decide +kernel
theorem dX0_body22_12 : decode cX0_body22 12 = .ok (.iadd, 1) := by decide +kernel
theorem dX0_body22_13 : decode cX0_body22 13 = .ok (.ireturn, 1) := by decide +kernel
theorem dX0_body23_0 : decode cX0_body23 0 = .ok (.aload_n 0, 1) := by decide +kernel
theorem dX0_body23_1 : decode cX0_body23 1 = .ok (.bipush 23, 2) := by decide +kernel
theorem dX0_body23_3 : decode cX0_body23 3 = .ok (.invokevirtual 73, 3) := by decide +kernel
theorem dX0_body23_6 : decode cX0_body23 6 = .ok (.iconst 2, 1) := by decide +kernel
theorem dX0_body23_7 : decode cX0_body23 7 = .ok (.aload_n 0, 1) := by decide +kernel
theorem dX0_body23_8 : decode cX0_body23 8 = .ok (.invokevirtual 64, 3) := by decide +kernel
theorem dX0_body23_11 : decode cX0_body23 11 = .ok (.imul, 1) := by decide +kernel
theorem dX0_body23_12 : decode cX0_body23 12 = .ok (.ireturn, 1) := by decide +kernel
theorem dX1_init_0 : decode cX1_init 0 = .ok (.aload_n 0, 1) := by decide +kernel
theorem dX1_init_1 : decode cX1_init 1 = .ok (.invokespecial 3, 3) := by decide +kernel
theorem dX1_init_4 : decode cX1_init 4 = .ok (.aload_n 0, 1) := by decide +kernel
theorem dX1_init_5 : decode cX1_init 5 = .ok (.iconst 2, 1) := by decide +kernel
theorem dX1_init_6 : decode cX1_init 6 = .ok (.putfield 9, 3) := by decide +kernel
theorem dX1_init_9 : decode cX1_init 9 = .ok (.aload_n 0, 1) := by decide +kernel
theorem dX1_init_10 : decode cX1_init 10 = .ok (.iconst 1, 1) := by decide +kernel
theorem dX1_init_11 : decode cX1_init 11 = .ok (.putfield 15, 3) := by decide +kernel
theorem dX1_init_14 : decode cX1_init 14 = .ok (.aload_n 0, 1) := by decide +kernel
theorem dX1_init_15 : decode cX1_init 15 = .ok (.iconst 5, 1) := by decide +kernel
theorem dX1_init_16 : decode cX1_init 16 = .ok (.putfield 18, 3) := by decide +kernel
theorem dX1_init_19 : decode cX1_init 19 = .ok (.aload_n 0, 1) := by decide +kernel
theorem dX1_init_20 : decode cX1_init 20 = .ok (.bipush 40, 2) := by decide +kernel
theorem dX1_init_22 : decode cX1_init 22 = .ok (.newarray .int, 2) := by decide +kernel
theorem dX1_init_24 : decode cX1_init 24 = .ok (.putfield 21, 3) := by decide +kernel
theorem dX1_init_27 : decode cX1_init 27 = .ok (.return_, 1) := by decide +kernel
theorem dX1_step_0 : decode cX1_step 0 = .ok (.aload_n 3, 1) := by decide +kernel
theorem dX1_step_1 : decode cX1_step 1 = .ok (.iconst 0, 1) := by decide +kernel
theorem dX1_step_2 : decode cX1_step 2 = .ok (.invokestatic 25, 3) := by decide +kernel
theorem dX1_step_5 : decode cX1_step 5 = .ok (.aload_n 3, 1) := by decide +kernel
theorem dX1_step_6 : decode cX1_step 6 = .ok (.arraylength, 1) := by decide +kernel
theorem dX1_step_7 : decode cX1_step 7 = .ok (.bipush 6, 2) := by decide +kernel
theorem dX1_step_9 : decode cX1_step 9 = .ok (.if_icmp .ge 4, 3) := by decide +kernel
theorem dX1_step_12 : decode cX1_step 12 = .ok (.return_, 1) := by decide +kernel
theorem dX1_step_13 : decode cX1_step 13 = .ok (.iconst 0, 1) := by decide +kernel
theorem dX1_step_14 : decode cX1_step 14 = .ok (.istore 4, 2) := by decide +kernel
theorem dX1_step_16 : decode cX1_step 16 = .ok (.iconst 0, 1) := by decide +kernel
theorem dX1_step_17 : decode cX1_step 17 = .ok (.istore 5, 2) := by decide +kernel
theorem dX1_step_19 : decode cX1_step 19 = .ok (.iload 5, 2) := by decide +kernel
theorem dX1_step_21 : decode cX1_step 21 = .ok (.aload_n 1, 1) := by decide +kernel
theorem dX1_step_22 : decode cX1_step 22 = .ok (.getfield 31, 3) := by decide +kernel
theorem dX1_step_25 : decode cX1_step 25 = .ok (.if_icmp .ge 82, 3) := by decide +kernel
theorem dX1_step_28 : decode cX1_step 28 = .ok (.aload_n 0, 1) := by decide +kernel
theorem dX1_step_29 : decode cX1_step 29 = .ok (.aload_n 1, 1) := by decide +kernel
theorem dX1_step_30 : decode cX1_step 30 = .ok (.iload 5, 2) := by decide +kernel
theorem dX1_step_32 : decode cX1_step 32 = .ok (.iload_n 2, 1) := by decide +kernel
theorem dX1_step_33 : decode cX1_step 33 = .ok (.invokevirtual 36, 3) := by decide +kernel
theorem dX1_step_36 : decode cX1_step 36 = .ok (.istore 6, 2) := by decide +kernel
theorem dX1_step_38 : decode cX1_step 38 = .ok (.iload 6, 2) := by decide +kernel
theorem dX1_step_40 : decode cX1_step 40 = .ok (.iload 4, 2) := by decide +kernel
theorem dX1_step_42 : decode cX1_step 42 = .ok (.invokestatic 40, 3) := by decide +kernel
theorem dX1_step_45 : decode cX1_step 45 = .ok (.istore 7, 2) := by decide +kernel
theorem dX1_step_47 : decode cX1_step 47 = .ok (.iload 7, 2) := by decide +kernel
theorem dX1_step_49 : decode cX1_step 49 = .ok (.aload_n 0, 1) := by decide +kernel
theorem dX1_step_50 : decode cX1_step 50 = .ok (.aload_n 1, 1) := by decide +kernel
theorem dX1_step_51 : decode cX1_step 51 = .ok (.iload 5, 2) := by decide +kernel
theorem dX1_step_53 : decode cX1_step 53 = .ok (.invokevirtual 46, 3) := by decide +kernel
theorem dX1_step_56 : decode cX1_step 56 = .ok (.iadd, 1) := by decide +kernel
theorem dX1_step_57 : decode cX1_step 57 = .ok (.istore 4, 2) := by decide +kernel
theorem dX1_step_59 : decode cX1_step 59 = .ok (.aload_n 0, 1) := by decide +kernel
theorem dX1_step_60 : decode cX1_step 60 = .ok (.getfield 21, 3) := by decide +kernel
theorem dX1_step_63 : decode cX1_step 63 = .ok (.iload 5, 2) := by decide +kernel
theorem dX1_step_65 : decode cX1_step 65 = .ok (.iload 4, 2) := by decide +kernel
theorem dX1_step_67 : decode cX1_step 67 = .ok (.iastore, 1) := by decide +kernel
theorem dX1_step_68 : decode cX1_step 68 = .ok (.aload_n 3, 1) := by decide +kernel
theorem dX1_step_69 : decode cX1_step 69 = .ok (.iconst 1, 1) := by decide +kernel
theorem dX1_step_70 : decode cX1_step 70 = .ok (.dup2, 1) := by decide +kernel
theorem dX1_step_71 : decode cX1_step 71 = .ok (.iaload, 1) := by decide +kernel
theorem dX1_step_72 : decode cX1_step 72 = .ok (.iload 7, 2) := by decide +kernel
theorem dX1_step_74 : decode cX1_step 74 = .ok (.iload 6, 2) := by decide +kernel
theorem dX1_step_76 : decode cX1_step 76 = .ok (.isub, 1) := by decide +kernel
theorem dX1_step_77 : decode cX1_step 77 = .ok (.iadd, 1) := by decide +kernel
theorem dX1_step_78 : decode cX1_step 78 = .ok (.iastore, 1) := by decide +kernel
theorem dX1_step_79 : decode cX1_step 79 = .ok (.aload_n 3, 1) := by decide +kernel
theorem dX1_step_80 : decode cX1_step 80 = .ok (.iconst 2, 1) := by decide +kernel
theorem dX1_step_81 : decode cX1_step 81 = .ok (.aload_n 3, 1) := by decide +kernel
theorem dX1_step_82 : decode cX1_step 82 = .ok (.iconst 2, 1) := by decide +kernel
theorem dX1_step_83 : decode cX1_step 83 = .ok (.iaload, 1) := by decide +kernel
theorem dX1_step_84 : decode cX1_step 84 = .ok (.iload 7, 2) := by decide +kernel
theorem dX1_step_86 : decode cX1_step 86 = .ok (.iload 6, 2) := by decide +kernel
theorem dX1_step_88 : decode cX1_step 88 = .ok (.isub, 1) := by decide +kernel
theorem dX1_step_89 : decode cX1_step 89 = .ok (.invokestatic 40, 3) := by decide +kernel
theorem dX1_step_92 : decode cX1_step 92 = .ok (.iastore, 1) := by decide +kernel
theorem dX1_step_93 : decode cX1_step 93 = .ok (.aload_n 0, 1) := by decide +kernel
theorem dX1_step_94 : decode cX1_step 94 = .ok (.aload_n 1, 1) := by decide +kernel
theorem dX1_step_95 : decode cX1_step 95 = .ok (.iload 5, 2) := by decide +kernel
theorem dX1_step_97 : decode cX1_step 97 = .ok (.aload_n 3, 1) := by decide +kernel
theorem dX1_step_98 : decode cX1_step 98 = .ok (.invokevirtual 50, 3) := by decide +kernel
theorem dX1_step_101 : decode cX1_step 101 = .ok (.iinc 5 1, 3) := by decide +kernel
theorem dX1_step_104 : decode cX1_step 104 = .ok (.goto (-85), 3) := by decide +kernel
theorem dX1_step_107 : decode cX1_step 107 = .ok (.aload_n 3, 1) := by decide +kernel
theorem dX1_step_108 : decode cX1_step 108 = .ok (.iconst 3, 1) := by decide +kernel
theorem dX1_step_109 : decode cX1_step 109 = .ok (.iload 4, 2) := by decide +kernel
theorem dX1_step_111 : decode cX1_step 111 = .ok (.iastore, 1) := by decide +kernel
theorem dX1_step_112 : decode cX1_step 112 = .ok (.return_, 1) := by decide +kernel
theorem dX1_comesAt_0 : decode cX1_comesAt 0 = .ok (.iload_n 3, 1) := by decide +kernel
theorem dX1_comesAt_1 : decode cX1_comesAt 1 = .ok (.ifCond .le 8, 3) := by decide +kernel
theorem dX1_comesAt_4 : decode cX1_comesAt 4 = .ok (.iload_n 2, 1) := by decide +kernel
theorem dX1_comesAt_5 : decode cX1_comesAt 5 = .ok (.iload_n 3, 1) := by decide +kernel
theorem dX1_comesAt_6 : decode cX1_comesAt 6 = .ok (.if_icmp .ge 7, 3) := by decide +kernel
theorem dX1_comesAt_9 : decode cX1_comesAt 9 = .ok (.iconst 1, 1) := by decide +kernel
theorem dX1_comesAt_10 : decode cX1_comesAt 10 = .ok (.goto 4, 3) := by decide +kernel
theorem dX1_comesAt_13 : decode cX1_comesAt 13 = .ok (.iconst 0, 1) := by decide +kernel
theorem dX1_comesAt_14 : decode cX1_comesAt 14 = .ok (.istore 4, 2) := by decide +kernel
theorem dX1_comesAt_16 : decode cX1_comesAt 16 = .ok (.iload 4, 2) := by decide +kernel
theorem dX1_comesAt_18 : decode cX1_comesAt 18 = .ok (.ifCond .eq 12, 3) := by decide +kernel
theorem dX1_comesAt_21 : decode cX1_comesAt 21 = .ok (.aload_n 1, 1) := by decide +kernel
theorem dX1_comesAt_22 : decode cX1_comesAt 22 = .ok (.getfield 54, 3) := by decide +kernel
theorem dX1_comesAt_25 : decode cX1_comesAt 25 = .ok (.iload_n 2, 1) := by decide +kernel
theorem dX1_comesAt_26 : decode cX1_comesAt 26 = .ok (.iaload, 1) := by decide +kernel
theorem dX1_comesAt_27 : decode cX1_comesAt 27 = .ok (.goto 17, 3) := by decide +kernel
theorem dX1_comesAt_30 : decode cX1_comesAt 30 = .ok (.aload_n 0, 1) := by decide +kernel
theorem dX1_comesAt_31 : decode cX1_comesAt 31 = .ok (.getfield 21, 3) := by decide +kernel
theorem dX1_comesAt_34 : decode cX1_comesAt 34 = .ok (.iload_n 2, 1) := by decide +kernel
theorem dX1_comesAt_35 : decode cX1_comesAt 35 = .ok (.iload_n 3, 1) := by decide +kernel
theorem dX1_comesAt_36 : decode cX1_comesAt 36 = .ok (.isub, 1) := by decide +kernel
theorem dX1_comesAt_37 : decode cX1_comesAt 37 = .ok (.iaload, 1) := by decide +kernel
theorem dX1_comesAt_38 : decode cX1_comesAt 38 = .ok (.aload_n 1, 1) := by decide +kernel
theorem dX1_comesAt_39 : decode cX1_comesAt 39 = .ok (.iload_n 2, 1) := by decide +kernel
theorem dX1_comesAt_40 : decode cX1_comesAt 40 = .ok (.invokevirtual 57, 3) := by decide +kernel
theorem dX1_comesAt_43 : decode cX1_comesAt 43 = .ok (.iadd, 1) := by decide +kernel
theorem dX1_comesAt_44 : decode cX1_comesAt 44 = .ok (.ireturn, 1) := by decide +kernel
theorem dX1_takes_0 : decode cX1_takes 0 = .ok (.aload_n 0, 1) := by decide +kernel
theorem dX1_takes_1 : decode cX1_takes 1 = .ok (.aload_n 1, 1) := by decide +kernel
theorem dX1_takes_2 : decode cX1_takes 2 = .ok (.iload_n 2, 1) := by decide +kernel
theorem dX1_takes_3 : decode cX1_takes 3 = .ok (.invokevirtual 61, 3) := by decide +kernel
theorem dX1_takes_6 : decode cX1_takes 6 = .ok (.ifCond .eq 10, 3) := by decide +kernel
theorem dX1_takes_9 : decode cX1_takes 9 = .ok (.aload_n 0, 1) := by decide +kernel
theorem dX1_takes_10 : decode cX1_takes 10 = .ok (.getfield 15, 3) := by decide +kernel
theorem dX1_takes_13 : decode cX1_takes 13 = .ok (.goto 19, 3) := by decide +kernel
theorem dX1_takes_16 : decode cX1_takes 16 = .ok (.aload_n 0, 1) := by decide +kernel
theorem dX1_takes_17 : decode cX1_takes 17 = .ok (.getfield 15, 3) := by decide +kernel
theorem dX1_takes_20 : decode cX1_takes 20 = .ok (.aload_n 0, 1) := by decide +kernel
theorem dX1_takes_21 : decode cX1_takes 21 = .ok (.getfield 18, 3) := by decide +kernel
theorem dX1_takes_24 : decode cX1_takes 24 = .ok (.iadd, 1) := by decide +kernel
theorem dX1_takes_25 : decode cX1_takes 25 = .ok (.aload_n 1, 1) := by decide +kernel
theorem dX1_takes_26 : decode cX1_takes 26 = .ok (.getfield 65, 3) := by decide +kernel
theorem dX1_takes_29 : decode cX1_takes 29 = .ok (.iload_n 2, 1) := by decide +kernel
theorem dX1_takes_30 : decode cX1_takes 30 = .ok (.iaload, 1) := by decide +kernel
theorem dX1_takes_31 : decode cX1_takes 31 = .ok (.iadd, 1) := by decide +kernel
theorem dX1_takes_32 : decode cX1_takes 32 = .ok (.ireturn, 1) := by decide +kernel
theorem dX1_isHit_0 : decode cX1_isHit 0 = .ok (.aload_n 1, 1) := by decide +kernel
theorem dX1_isHit_1 : decode cX1_isHit 1 = .ok (.getfield 68, 3) := by decide +kernel
theorem dX1_isHit_4 : decode cX1_isHit 4 = .ok (.iload_n 2, 1) := by decide +kernel
theorem dX1_isHit_5 : decode cX1_isHit 5 = .ok (.iaload, 1) := by decide +kernel
theorem dX1_isHit_6 : decode cX1_isHit 6 = .ok (.ldc 71, 2) := by decide +kernel
theorem dX1_isHit_8 : decode cX1_isHit 8 = .ok (.if_icmp .eq 20, 3) := by decide +kernel
theorem dX1_isHit_11 : decode cX1_isHit 11 = .ok (.aload_n 1, 1) := by decide +kernel
theorem dX1_isHit_12 : decode cX1_isHit 12 = .ok (.getfield 68, 3) := by decide +kernel
theorem dX1_isHit_15 : decode cX1_isHit 15 = .ok (.iload_n 2, 1) := by decide +kernel
theorem dX1_isHit_16 : decode cX1_isHit 16 = .ok (.iaload, 1) := by decide +kernel
theorem dX1_isHit_17 : decode cX1_isHit 17 = .ok (.aload_n 0, 1) := by decide +kernel
theorem dX1_isHit_18 : decode cX1_isHit 18 = .ok (.getfield 9, 3) := by decide +kernel
theorem dX1_isHit_21 : decode cX1_isHit 21 = .ok (.if_icmp .ge 7, 3) := by decide +kernel
theorem dX1_isHit_24 : decode cX1_isHit 24 = .ok (.iconst 1, 1) := by decide +kernel
theorem dX1_isHit_25 : decode cX1_isHit 25 = .ok (.goto 4, 3) := by decide +kernel
theorem dX1_isHit_28 : decode cX1_isHit 28 = .ok (.iconst 0, 1) := by decide +kernel
theorem dX1_isHit_29 : decode cX1_isHit 29 = .ok (.ireturn, 1) := by decide +kernel
theorem dX1_countCache_0 : decode cX1_countCache 0 = .ok (.aload_n 0, 1) := by decide +kernel
theorem dX1_countCache_1 : decode cX1_countCache 1 = .ok (.aload_n 1, 1) := by decide +kernel
theorem dX1_countCache_2 : decode cX1_countCache 2 = .ok (.iload_n 2, 1) := by decide +kernel
theorem dX1_countCache_3 : decode cX1_countCache 3 = .ok (.invokevirtual 61, 3) := by decide +kernel
theorem dX1_countCache_6 : decode cX1_countCache 6 = .ok (.ifCond .eq 11, 3) := by decide +kernel
theorem dX1_countCache_9 : decode cX1_countCache 9 = .ok (.aload_n 3, 1) := by decide +kernel
theorem dX1_countCache_10 : decode cX1_countCache 10 = .ok (.iconst 0, 1) := by decide +kernel
theorem dX1_countCache_11 : decode cX1_countCache 11 = .ok (.dup2, 1) := by decide +kernel
theorem dX1_countCache_12 : decode cX1_countCache 12 = .ok (.iaload, 1) := by decide +kernel
theorem dX1_countCache_13 : decode cX1_countCache 13 = .ok (.iconst 1, 1) := by decide +kernel
theorem dX1_countCache_14 : decode cX1_countCache 14 = .ok (.iadd, 1) := by decide +kernel
theorem dX1_countCache_15 : decode cX1_countCache 15 = .ok (.iastore, 1) := by decide +kernel
theorem dX1_countCache_16 : decode cX1_countCache 16 = .ok (.return_, 1) := by decide +kernel
theorem dX1_countCache_17 : decode cX1_countCache 17 = .ok (.aload_n 3, 1) := by decide +kernel
theorem dX1_countCache_18 : decode cX1_countCache 18 = .ok (.iconst 4, 1) := by decide +kernel
theorem dX1_countCache_19 : decode cX1_countCache 19 = .ok (.iaload, 1) := by decide +kernel
theorem dX1_countCache_20 : decode cX1_countCache 20 = .ok (.aload_n 0, 1) := by decide +kernel
theorem dX1_countCache_21 : decode cX1_countCache 21 = .ok (.getfield 9, 3) := by decide +kernel
theorem dX1_countCache_24 : decode cX1_countCache 24 = .ok (.if_icmp .lt 7, 3) := by decide +kernel
theorem dX1_countCache_27 : decode cX1_countCache 27 = .ok (.iconst 1, 1) := by decide +kernel
theorem dX1_countCache_28 : decode cX1_countCache 28 = .ok (.goto 4, 3) := by decide +kernel
theorem dX1_countCache_31 : decode cX1_countCache 31 = .ok (.iconst 0, 1) := by decide +kernel
theorem dX1_countCache_32 : decode cX1_countCache 32 = .ok (.istore 4, 2) := by decide +kernel
theorem dX1_countCache_34 : decode cX1_countCache 34 = .ok (.iload 4, 2) := by decide +kernel
theorem dX1_countCache_36 : decode cX1_countCache 36 = .ok (.ifCond .eq 10, 3) := by decide +kernel
theorem dX1_countCache_39 : decode cX1_countCache 39 = .ok (.aload_n 3, 1) := by decide +kernel
theorem dX1_countCache_40 : decode cX1_countCache 40 = .ok (.iconst 5, 1) := by decide +kernel
theorem dX1_countCache_41 : decode cX1_countCache 41 = .ok (.dup2, 1) := by decide +kernel
theorem dX1_countCache_42 : decode cX1_countCache 42 = .ok (.iaload, 1) := by decide +kernel
theorem dX1_countCache_43 : decode cX1_countCache 43 = .ok (.iconst 1, 1) := by decide +kernel
theorem dX1_countCache_44 : decode cX1_countCache 44 = .ok (.iadd, 1) := by decide +kernel
theorem dX1_countCache_45 : decode cX1_countCache 45 = .ok (.iastore, 1) := by decide +kernel
theorem dX1_countCache_46 : decode cX1_countCache 46 = .ok (.aload_n 1, 1) := by decide +kernel
theorem dX1_countCache_47 : decode cX1_countCache 47 = .ok (.getfield 68, 3) := by decide +kernel
theorem dX1_countCache_50 : decode cX1_countCache 50 = .ok (.iload_n 2, 1) := by decide +kernel
theorem dX1_countCache_51 : decode cX1_countCache 51 = .ok (.iaload, 1) := by decide +kernel
theorem dX1_countCache_52 : decode cX1_countCache 52 = .ok (.ldc 71, 2) := by decide +kernel
theorem dX1_countCache_54 : decode cX1_countCache 54 = .ok (.if_icmp .ne 10, 3) := by decide +kernel
theorem dX1_countCache_57 : decode cX1_countCache 57 = .ok (.aload_n 3, 1) := by decide +kernel
theorem dX1_countCache_58 : decode cX1_countCache 58 = .ok (.iconst 4, 1) := by decide +kernel
theorem dX1_countCache_59 : decode cX1_countCache 59 = .ok (.dup2, 1) := by decide +kernel
theorem dX1_countCache_60 : decode cX1_countCache 60 = .ok (.iaload, 1) := by decide +kernel
theorem dX1_countCache_61 : decode cX1_countCache 61 = .ok (.iconst 1, 1) := by decide +kernel
theorem dX1_countCache_62 : decode cX1_countCache 62 = .ok (.iadd, 1) := by decide +kernel
theorem dX1_countCache_63 : decode cX1_countCache 63 = .ok (.iastore, 1) := by decide +kernel
theorem dX1_countCache_64 : decode cX1_countCache 64 = .ok (.return_, 1) := by decide +kernel
