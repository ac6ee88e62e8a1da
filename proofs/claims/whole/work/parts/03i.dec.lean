theorem dX9_count_0 : decode cX9_count 0 = .ok (.iload_n 1, 1) := by decide +kernel
theorem dX9_count_1 : decode cX9_count 1 = .ok (.tableswitch 81 0 5 #[39, 44, 52, 60, 68, 73], 39) := by decide +kernel
theorem dX9_count_40 : decode cX9_count 40 = .ok (.aload_n 0, 1) := by decide +kernel
theorem dX9_count_41 : decode cX9_count 41 = .ok (.invokevirtual 282, 3) := by decide +kernel
theorem dX9_count_44 : decode cX9_count 44 = .ok (.ireturn, 1) := by decide +kernel
theorem dX9_count_45 : decode cX9_count 45 = .ok (.aload_n 0, 1) := by decide +kernel
theorem dX9_count_46 : decode cX9_count 46 = .ok (.getfield 18, 3) := by decide +kernel
theorem dX9_count_49 : decode cX9_count 49 = .ok (.getfield 137, 3) := by decide +kernel
theorem dX9_count_52 : decode cX9_count 52 = .ok (.ireturn, 1) := by decide +kernel
theorem dX9_count_53 : decode cX9_count 53 = .ok (.aload_n 0, 1) := by decide +kernel
theorem dX9_count_54 : decode cX9_count 54 = .ok (.getfield 22, 3) := by decide +kernel
theorem dX9_count_57 : decode cX9_count 57 = .ok (.getfield 137, 3) := by decide +kernel
theorem dX9_count_60 : decode cX9_count 60 = .ok (.ireturn, 1) := by decide +kernel
theorem dX9_count_61 : decode cX9_count 61 = .ok (.aload_n 0, 1) := by decide +kernel
theorem dX9_count_62 : decode cX9_count 62 = .ok (.getfield 38, 3) := by decide +kernel
theorem dX9_count_65 : decode cX9_count 65 = .ok (.invokevirtual 285, 3) := by decide +kernel
theorem dX9_count_68 : decode cX9_count 68 = .ok (.ireturn, 1) := by decide +kernel
theorem dX9_count_69 : decode cX9_count 69 = .ok (.aload_n 0, 1) := by decide +kernel
theorem dX9_count_70 : decode cX9_count 70 = .ok (.getfield 92, 3) := by decide +kernel
theorem dX9_count_73 : decode cX9_count 73 = .ok (.ireturn, 1) := by decide +kernel
theorem dX9_count_74 : decode cX9_count 74 = .ok (.aload_n 0, 1) := by decide +kernel
theorem dX9_count_75 : decode cX9_count 75 = .ok (.getfield 31, 3) := by decide +kernel
theorem dX9_count_78 : decode cX9_count 78 = .ok (.getfield 173, 3) := by decide +kernel
theorem dX9_count_81 : decode cX9_count 81 = .ok (.ireturn, 1) := by decide +kernel
theorem dX9_count_82 : decode cX9_count 82 = .ok (.ldc 100, 2) := by decide +kernel
theorem dX9_count_84 : decode cX9_count 84 = .ok (.ireturn, 1) := by decide +kernel
theorem dX9_status_0 : decode cX9_status 0 = .ok (.aload_n 0, 1) := by decide +kernel
theorem dX9_status_1 : decode cX9_status 1 = .ok (.getfield 89, 3) := by decide +kernel
theorem dX9_status_4 : decode cX9_status 4 = .ok (.ireturn, 1) := by decide +kernel
theorem dX9_finding_0 : decode cX9_finding 0 = .ok (.aload_n 0, 1) := by decide +kernel
theorem dX9_finding_1 : decode cX9_finding 1 = .ok (.iload_n 1, 1) := by decide +kernel
theorem dX9_finding_2 : decode cX9_finding 2 = .ok (.putfield 89, 3) := by decide +kernel
theorem dX9_finding_5 : decode cX9_finding 5 = .ok (.ldc_w 288, 3) := by decide +kernel
theorem dX9_finding_8 : decode cX9_finding 8 = .ok (.iload_n 1, 1) := by decide +kernel
theorem dX9_finding_9 : decode cX9_finding 9 = .ok (.isub, 1) := by decide +kernel
theorem dX9_finding_10 : decode cX9_finding 10 = .ok (.ireturn, 1) := by decide +kernel
theorem dX9_noFinding_0 : decode cX9_noFinding 0 = .ok (.aload_n 0, 1) := by decide +kernel
theorem dX9_noFinding_1 : decode cX9_noFinding 1 = .ok (.iconst 0, 1) := by decide +kernel
theorem dX9_noFinding_2 : decode cX9_noFinding 2 = .ok (.putfield 89, 3) := by decide +kernel
theorem dX9_noFinding_5 : decode cX9_noFinding 5 = .ok (.iload_n 1, 1) := by decide +kernel
theorem dX9_noFinding_6 : decode cX9_noFinding 6 = .ok (.ireturn, 1) := by decide +kernel
theorem dX9_howManySheets_0 : decode cX9_howManySheets 0 = .ok (.iconst 0, 1) := by decide +kernel
theorem dX9_howManySheets_1 : decode cX9_howManySheets 1 = .ok (.istore_n 1, 1) := by decide +kernel
theorem dX9_howManySheets_2 : decode cX9_howManySheets 2 = .ok (.iconst 0, 1) := by decide +kernel
theorem dX9_howManySheets_3 : decode cX9_howManySheets 3 = .ok (.istore_n 2, 1) := by decide +kernel
theorem dX9_howManySheets_4 : decode cX9_howManySheets 4 = .ok (.iload_n 2, 1) := by decide +kernel
theorem dX9_howManySheets_5 : decode cX9_howManySheets 5 = .ok (.bipush 8, 2) := by decide +kernel
theorem dX9_howManySheets_7 : decode cX9_howManySheets 7 = .ok (.if_icmp .ge 24, 3) := by decide +kernel
theorem dX9_howManySheets_10 : decode cX9_howManySheets 10 = .ok (.aload_n 0, 1) := by decide +kernel
theorem dX9_howManySheets_11 : decode cX9_howManySheets 11 = .ok (.getfield 11, 3) := by decide +kernel
theorem dX9_howManySheets_14 : decode cX9_howManySheets 14 = .ok (.iload_n 2, 1) := by decide +kernel
theorem dX9_howManySheets_15 : decode cX9_howManySheets 15 = .ok (.aaload, 1) := by decide +kernel
theorem dX9_howManySheets_16 : decode cX9_howManySheets 16 = .ok (.getfield 112, 3) := by decide +kernel
theorem dX9_howManySheets_19 : decode cX9_howManySheets 19 = .ok (.ifCond .ne 6, 3) := by decide +kernel
theorem dX9_howManySheets_22 : decode cX9_howManySheets 22 = .ok (.iinc 1 1, 3) := by decide +kernel
theorem dX9_howManySheets_25 : decode cX9_howManySheets 25 = .ok (.iinc 2 1, 3) := by decide +kernel
theorem dX9_howManySheets_28 : decode cX9_howManySheets 28 = .ok (.goto (-24), 3) := by decide +kernel
theorem dX9_howManySheets_31 : decode cX9_howManySheets 31 = .ok (.iload_n 1, 1) := by decide +kernel
theorem dX9_howManySheets_32 : decode cX9_howManySheets 32 = .ok (.ireturn, 1) := by decide +kernel
theorem dX9_rowOf_0 : decode cX9_rowOf 0 = .ok (.iload_n 1, 1) := by decide +kernel
theorem dX9_rowOf_1 : decode cX9_rowOf 1 = .ok (.lookupswitch 37 #[(0, 27), (1, 32)], 27) := by decide +kernel
theorem dX9_rowOf_28 : decode cX9_rowOf 28 = .ok (.aload_n 0, 1) := by decide +kernel
theorem dX9_rowOf_29 : decode cX9_rowOf 29 = .ok (.getfield 18, 3) := by decide +kernel
theorem dX9_rowOf_32 : decode cX9_rowOf 32 = .ok (.areturn, 1) := by decide +kernel
theorem dX9_rowOf_33 : decode cX9_rowOf 33 = .ok (.aload_n 0, 1) := by decide +kernel
theorem dX9_rowOf_34 : decode cX9_rowOf 34 = .ok (.getfield 22, 3) := by decide +kernel
theorem dX9_rowOf_37 : decode cX9_rowOf 37 = .ok (.areturn, 1) := by decide +kernel
theorem dX9_rowOf_38 : decode cX9_rowOf 38 = .ok (.aload_n 0, 1) := by decide +kernel
theorem dX9_rowOf_39 : decode cX9_rowOf 39 = .ok (.getfield 25, 3) := by decide +kernel
theorem dX9_rowOf_42 : decode cX9_rowOf 42 = .ok (.aload_n 0, 1) := by decide +kernel
theorem dX9_rowOf_43 : decode cX9_rowOf 43 = .ok (.getfield 18, 3) := by decide +kernel
theorem dX9_rowOf_46 : decode cX9_rowOf 46 = .ok (.iload_n 1, 1) := by decide +kernel
theorem dX9_rowOf_47 : decode cX9_rowOf 47 = .ok (.iconst 2, 1) := by decide +kernel
theorem dX9_rowOf_48 : decode cX9_rowOf 48 = .ok (.isub, 1) := by decide +kernel
theorem dX9_rowOf_49 : decode cX9_rowOf 49 = .ok (.invokevirtual 289, 3) := by decide +kernel
theorem dX9_rowOf_52 : decode cX9_rowOf 52 = .ok (.aload_n 0, 1) := by decide +kernel
theorem dX9_rowOf_53 : decode cX9_rowOf 53 = .ok (.getfield 25, 3) := by decide +kernel
theorem dX9_rowOf_56 : decode cX9_rowOf 56 = .ok (.areturn, 1) := by decide +kernel
theorem dX9_isBelow_0 : decode cX9_isBelow 0 = .ok (.iload_n 0, 1) := by decide +kernel
theorem dX9_isBelow_1 : decode cX9_isBelow 1 = .ok (.ifCond .lt 12, 3) := by decide +kernel
theorem dX9_isBelow_4 : decode cX9_isBelow 4 = .ok (.iload_n 0, 1) := by decide +kernel
theorem dX9_isBelow_5 : decode cX9_isBelow 5 = .ok (.iload_n 1, 1) := by decide +kernel
theorem dX9_isBelow_6 : decode cX9_isBelow 6 = .ok (.if_icmp .ge 7, 3) := by decide +kernel
theorem dX9_isBelow_9 : decode cX9_isBelow 9 = .ok (.iconst 1, 1) := by decide +kernel
theorem dX9_isBelow_10 : decode cX9_isBelow 10 = .ok (.goto 4, 3) := by decide +kernel
theorem dX9_isBelow_13 : decode cX9_isBelow 13 = .ok (.iconst 0, 1) := by decide +kernel
theorem dX9_isBelow_14 : decode cX9_isBelow 14 = .ok (.ireturn, 1) := by decide +kernel
theorem dX9_isComers_0 : decode cX9_isComers 0 = .ok (.iload_n 0, 1) := by decide +kernel
theorem dX9_isComers_1 : decode cX9_isComers 1 = .ok (.ifCond .lt 12, 3) := by decide +kernel
theorem dX9_isComers_4 : decode cX9_isComers 4 = .ok (.iload_n 0, 1) := by decide +kernel
theorem dX9_isComers_5 : decode cX9_isComers 5 = .ok (.iconst 4, 1) := by decide +kernel
theorem dX9_isComers_6 : decode cX9_isComers 6 = .ok (.if_icmp .gt 7, 3) := by decide +kernel
theorem dX9_isComers_9 : decode cX9_isComers 9 = .ok (.iconst 1, 1) := by decide +kernel
theorem dX9_isComers_10 : decode cX9_isComers 10 = .ok (.goto 4, 3) := by decide +kernel
theorem dX9_isComers_13 : decode cX9_isComers 13 = .ok (.iconst 0, 1) := by decide +kernel
theorem dX9_isComers_14 : decode cX9_isComers 14 = .ok (.ireturn, 1) := by decide +kernel
theorem dX9_firstSlot_0 : decode cX9_firstSlot 0 = .ok (.iload_n 0, 1) := by decide +kernel
theorem dX9_firstSlot_1 : decode cX9_firstSlot 1 = .ok (.iconst 2, 1) := by decide +kernel
theorem dX9_firstSlot_2 : decode cX9_firstSlot 2 = .ok (.if_icmp .ne 7, 3) := by decide +kernel
theorem dX9_firstSlot_5 : decode cX9_firstSlot 5 = .ok (.iconst 1, 1) := by decide +kernel
theorem dX9_firstSlot_6 : decode cX9_firstSlot 6 = .ok (.goto 4, 3) := by decide +kernel
theorem dX9_firstSlot_9 : decode cX9_firstSlot 9 = .ok (.iconst 0, 1) := by decide +kernel
theorem dX9_firstSlot_10 : decode cX9_firstSlot 10 = .ok (.ireturn, 1) := by decide +kernel
theorem dX9_lastSlot_0 : decode cX9_lastSlot 0 = .ok (.iload_n 0, 1) := by decide +kernel
theorem dX9_lastSlot_1 : decode cX9_lastSlot 1 = .ok (.lookupswitch 33 #[(1, 27), (3, 30)], 27) := by decide +kernel
theorem dX9_lastSlot_28 : decode cX9_lastSlot 28 = .ok (.bipush 10, 2) := by decide +kernel
theorem dX9_lastSlot_30 : decode cX9_lastSlot 30 = .ok (.ireturn, 1) := by decide +kernel
theorem dX9_lastSlot_31 : decode cX9_lastSlot 31 = .ok (.bipush 8, 2) := by decide +kernel
theorem dX9_lastSlot_33 : decode cX9_lastSlot 33 = .ok (.ireturn, 1) := by decide +kernel
theorem dX9_lastSlot_34 : decode cX9_lastSlot 34 = .ok (.bipush 9, 2) := by decide +kernel
theorem dX9_lastSlot_36 : decode cX9_lastSlot 36 = .ok (.ireturn, 1) := by decide +kernel
theorem dX9_isOfKind_0 : decode cX9_isOfKind 0 = .ok (.iload_n 1, 1) := by decide +kernel
theorem dX9_isOfKind_1 : decode cX9_isOfKind 1 = .ok (.iload_n 0, 1) := by decide +kernel
theorem dX9_isOfKind_2 : decode cX9_isOfKind 2 = .ok (.if_icmp .eq 17, 3) := by decide +kernel
theorem dX9_isOfKind_5 : decode cX9_isOfKind 5 = .ok (.iload_n 1, 1) := by decide +kernel
theorem dX9_isOfKind_6 : decode cX9_isOfKind 6 = .ok (.ifCond .eq 13, 3) := by decide +kernel
theorem dX9_isOfKind_9 : decode cX9_isOfKind 9 = .ok (.iload_n 1, 1) := by decide +kernel
theorem dX9_isOfKind_10 : decode cX9_isOfKind 10 = .ok (.iconst 3, 1) := by decide +kernel
theorem dX9_isOfKind_11 : decode cX9_isOfKind 11 = .ok (.if_icmp .ne 12, 3) := by decide +kernel
theorem dX9_isOfKind_14 : decode cX9_isOfKind 14 = .ok (.iload_n 0, 1) := by decide +kernel
theorem dX9_isOfKind_15 : decode cX9_isOfKind 15 = .ok (.iconst 4, 1) := by decide +kernel
theorem dX9_isOfKind_16 : decode cX9_isOfKind 16 = .ok (.if_icmp .ne 7, 3) := by decide +kernel
theorem dX9_isOfKind_19 : decode cX9_isOfKind 19 = .ok (.iconst 1, 1) := by decide +kernel
theorem dX9_isOfKind_20 : decode cX9_isOfKind 20 = .ok (.goto 4, 3) := by decide +kernel
theorem dX9_isOfKind_23 : decode cX9_isOfKind 23 = .ok (.iconst 0, 1) := by decide +kernel
theorem dX9_isOfKind_24 : decode cX9_isOfKind 24 = .ok (.ireturn, 1) := by decide +kernel
theorem dX9_layShape_0 : decode cX9_layShape 0 = .ok (.iconst 0, 1) := by decide +kernel
theorem dX9_layShape_1 : decode cX9_layShape 1 = .ok (.istore_n 3, 1) := by decide +kernel
theorem dX9_layShape_2 : decode cX9_layShape 2 = .ok (.iload_n 3, 1) := by decide +kernel
theorem dX9_layShape_3 : decode cX9_layShape 3 = .ok (.bipush 10, 2) := by decide +kernel
theorem dX9_layShape_5 : decode cX9_layShape 5 = .ok (.if_icmp .ge 23, 3) := by decide +kernel
theorem dX9_layShape_8 : decode cX9_layShape 8 = .ok (.iload_n 3, 1) := by decide +kernel
theorem dX9_layShape_9 : decode cX9_layShape 9 = .ok (.aload_n 2, 1) := by decide +kernel
theorem dX9_layShape_10 : decode cX9_layShape 10 = .ok (.arraylength, 1) := by decide +kernel
theorem dX9_layShape_11 : decode cX9_layShape 11 = .ok (.if_icmp .ge 17, 3) := by decide +kernel
theorem dX9_layShape_14 : decode cX9_layShape 14 = .ok (.aload_n 2, 1) := by decide +kernel
theorem dX9_layShape_15 : decode cX9_layShape 15 = .ok (.iload_n 3, 1) := by decide +kernel
theorem dX9_layShape_16 : decode cX9_layShape 16 = .ok (.iload_n 0, 1) := by decide +kernel
theorem dX9_layShape_17 : decode cX9_layShape 17 = .ok (.iload_n 3, 1) := by decide +kernel
theorem dX9_layShape_18 : decode cX9_layShape 18 = .ok (.invokestatic 293, 3) := by decide +kernel
theorem dX9_layShape_21 : decode cX9_layShape 21 = .ok (.iastore, 1) := by decide +kernel
theorem dX9_layShape_22 : decode cX9_layShape 22 = .ok (.iinc 3 1, 3) := by decide +kernel
theorem dX9_layShape_25 : decode cX9_layShape 25 = .ok (.goto (-23), 3) := by decide +kernel
theorem dX9_layShape_28 : decode cX9_layShape 28 = .ok (.bipush 10, 2) := by decide +kernel
theorem dX9_layShape_30 : decode cX9_layShape 30 = .ok (.aload_n 2, 1) := by decide +kernel
theorem dX9_layShape_31 : decode cX9_layShape 31 = .ok (.arraylength, 1) := by decide +kernel
theorem dX9_layShape_32 : decode cX9_layShape 32 = .ok (.if_icmp .ge 8, 3) := by decide +kernel
theorem dX9_layShape_35 : decode cX9_layShape 35 = .ok (.aload_n 2, 1) := by decide +kernel
theorem dX9_layShape_36 : decode cX9_layShape 36 = .ok (.bipush 10, 2) := by decide +kernel
theorem dX9_layShape_38 : decode cX9_layShape 38 = .ok (.iload_n 1, 1) := by decide +kernel
theorem dX9_layShape_39 : decode cX9_layShape 39 = .ok (.iastore, 1) := by decide +kernel
theorem dX9_layShape_40 : decode cX9_layShape 40 = .ok (.return_, 1) := by decide +kernel
theorem dX9_shapeAt_0 : decode cX9_shapeAt 0 = .ok (.iload_n 0, 1) := by decide +kernel
theorem dX9_shapeAt_1 : decode cX9_shapeAt 1 = .ok (.tableswitch 51 0 2 #[27, 30, 35], 27) := by decide +kernel
theorem dX9_shapeAt_28 : decode cX9_shapeAt 28 = .ok (.bipush 9, 2) := by decide +kernel
theorem dX9_shapeAt_30 : decode cX9_shapeAt 30 = .ok (.ireturn, 1) := by decide +kernel
theorem dX9_shapeAt_31 : decode cX9_shapeAt 31 = .ok (.bipush 10, 2) := by decide +kernel
theorem dX9_shapeAt_33 : decode cX9_shapeAt 33 = .ok (.iload_n 1, 1) := by decide +kernel
theorem dX9_shapeAt_34 : decode cX9_shapeAt 34 = .ok (.isub, 1) := by decide +kernel
theorem dX9_shapeAt_35 : decode cX9_shapeAt 35 = .ok (.ireturn, 1) := by decide +kernel
theorem dX9_shapeAt_36 : decode cX9_shapeAt 36 = .ok (.iload_n 1, 1) := by decide +kernel
theorem dX9_shapeAt_37 : decode cX9_shapeAt 37 = .ok (.ifCond .ge 8, 3) := by decide +kernel
theorem dX9_shapeAt_40 : decode cX9_shapeAt 40 = .ok (.bipush 9, 2) := by decide +kernel
theorem dX9_shapeAt_42 : decode cX9_shapeAt 42 = .ok (.goto 9, 3) := by decide +kernel
theorem dX9_shapeAt_45 : decode cX9_shapeAt 45 = .ok (.bipush 9, 2) := by decide +kernel
theorem dX9_shapeAt_47 : decode cX9_shapeAt 47 = .ok (.iload_n 1, 1) := by decide +kernel
theorem dX9_shapeAt_48 : decode cX9_shapeAt 48 = .ok (.iconst 1, 1) := by decide +kernel
theorem dX9_shapeAt_49 : decode cX9_shapeAt 49 = .ok (.iadd, 1) := by decide +kernel
theorem dX9_shapeAt_50 : decode cX9_shapeAt 50 = .ok (.idiv, 1) := by decide +kernel
theorem dX9_shapeAt_51 : decode cX9_shapeAt 51 = .ok (.ireturn, 1) := by decide +kernel
theorem dX9_shapeAt_52 : decode cX9_shapeAt 52 = .ok (.iload_n 1, 1) := by decide +kernel
theorem dX9_shapeAt_53 : decode cX9_shapeAt 53 = .ok (.ifCond .ne 8, 3) := by decide +kernel
theorem dX9_shapeAt_56 : decode cX9_shapeAt 56 = .ok (.bipush 9, 2) := by decide +kernel
theorem dX9_shapeAt_58 : decode cX9_shapeAt 58 = .ok (.goto 4, 3) := by decide +kernel
theorem dX9_shapeAt_61 : decode cX9_shapeAt 61 = .ok (.iconst 1, 1) := by decide +kernel
theorem dX9_shapeAt_62 : decode cX9_shapeAt 62 = .ok (.ireturn, 1) := by decide +kernel
theorem dX9_costBy_0 : decode cX9_costBy 0 = .ok (.aload_n 0, 1) := by decide +kernel
theorem dX9_costBy_1 : decode cX9_costBy 1 = .ok (.invokestatic 296, 3) := by decide +kernel
theorem dX9_costBy_4 : decode cX9_costBy 4 = .ok (.istore_n 2, 1) := by decide +kernel
theorem dX9_costBy_5 : decode cX9_costBy 5 = .ok (.bipush 8, 2) := by decide +kernel
theorem dX9_costBy_7 : decode cX9_costBy 7 = .ok (.aload_n 0, 1) := by decide +kernel
theorem dX9_costBy_8 : decode cX9_costBy 8 = .ok (.invokestatic 300, 3) := by decide +kernel
theorem dX9_costBy_11 : decode cX9_costBy 11 = .ok (.imul, 1) := by decide +kernel
theorem dX9_costBy_12 : decode cX9_costBy 12 = .ok (.istore_n 3, 1) := by decide +kernel
theorem dX9_costBy_13 : decode cX9_costBy 13 = .ok (.iconst 0, 1) := by decide +kernel
theorem dX9_costBy_14 : decode cX9_costBy 14 = .ok (.istore 4, 2) := by decide +kernel
theorem dX9_costBy_16 : decode cX9_costBy 16 = .ok (.iload 4, 2) := by decide +kernel
theorem dX9_costBy_18 : decode cX9_costBy 18 = .ok (.aload_n 0, 1) := by decide +kernel
theorem dX9_costBy_19 : decode cX9_costBy 19 = .ok (.arraylength, 1) := by decide +kernel
theorem dX9_costBy_20 : decode cX9_costBy 20 = .ok (.if_icmp .ge 52, 3) := by decide +kernel
theorem dX9_costBy_23 : decode cX9_costBy 23 = .ok (.iload 4, 2) := by decide +kernel
theorem dX9_costBy_25 : decode cX9_costBy 25 = .ok (.aload_n 1, 1) := by decide +kernel
theorem dX9_costBy_26 : decode cX9_costBy 26 = .ok (.arraylength, 1) := by decide +kernel
theorem dX9_costBy_27 : decode cX9_costBy 27 = .ok (.if_icmp .ge 45, 3) := by decide +kernel
theorem dX9_costBy_30 : decode cX9_costBy 30 = .ok (.aload_n 1, 1) := by decide +kernel
theorem dX9_costBy_31 : decode cX9_costBy 31 = .ok (.iload 4, 2) := by decide +kernel
theorem dX9_costBy_33 : decode cX9_costBy 33 = .ok (.iaload, 1) := by decide +kernel
theorem dX9_costBy_34 : decode cX9_costBy 34 = .ok (.ifCond .ne 6, 3) := by decide +kernel
theorem dX9_costBy_37 : decode cX9_costBy 37 = .ok (.goto 29, 3) := by decide +kernel
theorem dX9_costBy_40 : decode cX9_costBy 40 = .ok (.aload_n 0, 1) := by decide +kernel
theorem dX9_costBy_41 : decode cX9_costBy 41 = .ok (.iload 4, 2) := by decide +kernel
theorem dX9_costBy_43 : decode cX9_costBy 43 = .ok (.iaload, 1) := by decide +kernel
theorem dX9_costBy_44 : decode cX9_costBy 44 = .ok (.ifCond .ne 6, 3) := by decide +kernel
theorem dX9_costBy_47 : decode cX9_costBy 47 = .ok (.ldc 153, 2) := by decide +kernel
theorem dX9_costBy_49 : decode cX9_costBy 49 = .ok (.ireturn, 1) := by decide +kernel
theorem dX9_costBy_50 : decode cX9_costBy 50 = .ok (.iload_n 3, 1) := by decide +kernel
theorem dX9_costBy_51 : decode cX9_costBy 51 = .ok (.aload_n 1, 1) := by decide +kernel
theorem dX9_costBy_52 : decode cX9_costBy 52 = .ok (.iload 4, 2) := by decide +kernel
theorem dX9_costBy_54 : decode cX9_costBy 54 = .ok (.iaload, 1) := by decide +kernel
theorem dX9_costBy_55 : decode cX9_costBy 55 = .ok (.aload_n 0, 1) := by decide +kernel
theorem dX9_costBy_56 : decode cX9_costBy 56 = .ok (.iload 4, 2) := by decide +kernel
theorem dX9_costBy_58 : decode cX9_costBy 58 = .ok (.iaload, 1) := by decide +kernel
theorem dX9_costBy_59 : decode cX9_costBy 59 = .ok (.iload_n 2, 1) := by decide +kernel
theorem dX9_costBy_60 : decode cX9_costBy 60 = .ok (.invokestatic 303, 3) := by decide +kernel
theorem dX9_costBy_63 : decode cX9_costBy 63 = .ok (.imul, 1) := by decide +kernel
theorem dX9_costBy_64 : decode cX9_costBy 64 = .ok (.iadd, 1) := by decide +kernel
theorem dX9_costBy_65 : decode cX9_costBy 65 = .ok (.istore_n 3, 1) := by decide +kernel
theorem dX9_costBy_66 : decode cX9_costBy 66 = .ok (.iinc 4 1, 3) := by decide +kernel
theorem dX9_costBy_69 : decode cX9_costBy 69 = .ok (.goto (-53), 3) := by decide +kernel
theorem dX9_costBy_72 : decode cX9_costBy 72 = .ok (.iload_n 3, 1) := by decide +kernel
theorem dX9_costBy_73 : decode cX9_costBy 73 = .ok (.ireturn, 1) := by decide +kernel
theorem dX9_bitsOf_0 : decode cX9_bitsOf 0 = .ok (.iconst 0, 1) := by decide +kernel
theorem dX9_bitsOf_1 : decode cX9_bitsOf 1 = .ok (.istore_n 2, 1) := by decide +kernel
theorem dX9_bitsOf_2 : decode cX9_bitsOf 2 = .ok (.iload_n 2, 1) := by decide +kernel
theorem dX9_bitsOf_3 : decode cX9_bitsOf 3 = .ok (.bipush 30, 2) := by decide +kernel
theorem dX9_bitsOf_5 : decode cX9_bitsOf 5 = .ok (.if_icmp .ge 19, 3) := by decide +kernel
theorem dX9_bitsOf_8 : decode cX9_bitsOf 8 = .ok (.iload_n 0, 1) := by decide +kernel
theorem dX9_bitsOf_9 : decode cX9_bitsOf 9 = .ok (.i2l, 1) := by decide +kernel
theorem dX9_bitsOf_10 : decode cX9_bitsOf 10 = .ok (.iload_n 2, 1) := by decide +kernel
theorem dX9_bitsOf_11 : decode cX9_bitsOf 11 = .ok (.lshl, 1) := by decide +kernel
theorem dX9_bitsOf_12 : decode cX9_bitsOf 12 = .ok (.iload_n 1, 1) := by decide +kernel
theorem dX9_bitsOf_13 : decode cX9_bitsOf 13 = .ok (.i2l, 1) := by decide +kernel
theorem dX9_bitsOf_14 : decode cX9_bitsOf 14 = .ok (.lcmp, 1) := by decide +kernel
theorem dX9_bitsOf_15 : decode cX9_bitsOf 15 = .ok (.ifCond .ge 9, 3) := by decide +kernel
theorem dX9_bitsOf_18 : decode cX9_bitsOf 18 = .ok (.iinc 2 1, 3) := by decide +kernel
theorem dX9_bitsOf_21 : decode cX9_bitsOf 21 = .ok (.goto (-19), 3) := by decide +kernel
theorem dX9_bitsOf_24 : decode cX9_bitsOf 24 = .ok (.iload_n 2, 1) := by decide +kernel
theorem dX9_bitsOf_25 : decode cX9_bitsOf 25 = .ok (.ireturn, 1) := by decide +kernel
theorem dX9_copyWeights_0 : decode cX9_copyWeights 0 = .ok (.iconst 0, 1) := by decide +kernel
theorem dX9_copyWeights_1 : decode cX9_copyWeights 1 = .ok (.istore_n 2, 1) := by decide +kernel
theorem dX9_copyWeights_2 : decode cX9_copyWeights 2 = .ok (.iload_n 2, 1) := by decide +kernel
theorem dX9_copyWeights_3 : decode cX9_copyWeights 3 = .ok (.iconst 4, 1) := by decide +kernel
theorem dX9_copyWeights_4 : decode cX9_copyWeights 4 = .ok (.if_icmp .ge 22, 3) := by decide +kernel
theorem dX9_copyWeights_7 : decode cX9_copyWeights 7 = .ok (.aload_n 0, 1) := by decide +kernel
theorem dX9_copyWeights_8 : decode cX9_copyWeights 8 = .ok (.iload_n 2, 1) := by decide +kernel
theorem dX9_copyWeights_9 : decode cX9_copyWeights 9 = .ok (.aaload, 1) := by decide +kernel
theorem dX9_copyWeights_10 : decode cX9_copyWeights 10 = .ok (.iconst 0, 1) := by decide +kernel
theorem dX9_copyWeights_11 : decode cX9_copyWeights 11 = .ok (.aload_n 1, 1) := by decide +kernel
theorem dX9_copyWeights_12 : decode cX9_copyWeights 12 = .ok (.iload_n 2, 1) := by decide +kernel
theorem dX9_copyWeights_13 : decode cX9_copyWeights 13 = .ok (.aaload, 1) := by decide +kernel
theorem dX9_copyWeights_14 : decode cX9_copyWeights 14 = .ok (.iconst 0, 1) := by decide +kernel
theorem dX9_copyWeights_15 : decode cX9_copyWeights 15 = .ok (.bipush 11, 2) := by decide +kernel
theorem dX9_copyWeights_17 : decode cX9_copyWeights 17 = .ok (.invokestatic 128, 3) := by decide +kernel
theorem dX9_copyWeights_20 : decode cX9_copyWeights 20 = .ok (.iinc 2 1, 3) := by decide +kernel
theorem dX9_copyWeights_23 : decode cX9_copyWeights 23 = .ok (.goto (-21), 3) := by decide +kernel
theorem dX9_copyWeights_26 : decode cX9_copyWeights 26 = .ok (.return_, 1) := by decide +kernel
theorem dX9_sumOf_0 : decode cX9_sumOf 0 = .ok (.iconst 0, 1) := by decide +kernel
theorem dX9_sumOf_1 : decode cX9_sumOf 1 = .ok (.istore_n 1, 1) := by decide +kernel
theorem dX9_sumOf_2 : decode cX9_sumOf 2 = .ok (.iconst 0, 1) := by decide +kernel
theorem dX9_sumOf_3 : decode cX9_sumOf 3 = .ok (.istore_n 2, 1) := by decide +kernel
theorem dX9_sumOf_4 : decode cX9_sumOf 4 = .ok (.iload_n 2, 1) := by decide +kernel
theorem dX9_sumOf_5 : decode cX9_sumOf 5 = .ok (.aload_n 0, 1) := by decide +kernel
theorem dX9_sumOf_6 : decode cX9_sumOf 6 = .ok (.arraylength, 1) := by decide +kernel
theorem dX9_sumOf_7 : decode cX9_sumOf 7 = .ok (.if_icmp .ge 15, 3) := by decide +kernel
theorem dX9_sumOf_10 : decode cX9_sumOf 10 = .ok (.iload_n 1, 1) := by decide +kernel
theorem dX9_sumOf_11 : decode cX9_sumOf 11 = .ok (.aload_n 0, 1) := by decide +kernel
theorem dX9_sumOf_12 : decode cX9_sumOf 12 = .ok (.iload_n 2, 1) := by decide +kernel
theorem dX9_sumOf_13 : decode cX9_sumOf 13 = .ok (.iaload, 1) := by decide +kernel
theorem dX9_sumOf_14 : decode cX9_sumOf 14 = .ok (.iadd, 1) := by decide +kernel
theorem dX9_sumOf_15 : decode cX9_sumOf 15 = .ok (.istore_n 1, 1) := by decide +kernel
theorem dX9_sumOf_16 : decode cX9_sumOf 16 = .ok (.iinc 2 1, 3) := by decide +kernel
theorem dX9_sumOf_19 : decode cX9_sumOf 19 = .ok (.goto (-15), 3) := by decide +kernel
theorem dX9_sumOf_22 : decode cX9_sumOf 22 = .ok (.iload_n 1, 1) := by decide +kernel
theorem dX9_sumOf_23 : decode cX9_sumOf 23 = .ok (.ireturn, 1) := by decide +kernel
theorem dX9_howManyNotZero_0 : decode cX9_howManyNotZero 0 = .ok (.iconst 0, 1) := by decide +kernel
theorem dX9_howManyNotZero_1 : decode cX9_howManyNotZero 1 = .ok (.istore_n 1, 1) := by decide +kernel
theorem dX9_howManyNotZero_2 : decode cX9_howManyNotZero 2 = .ok (.iconst 0, 1) := by decide +kernel
theorem dX9_howManyNotZero_3 : decode cX9_howManyNotZero 3 = .ok (.istore_n 2, 1) := by decide +kernel
theorem dX9_howManyNotZero_4 : decode cX9_howManyNotZero 4 = .ok (.iload_n 2, 1) := by decide +kernel
theorem dX9_howManyNotZero_5 : decode cX9_howManyNotZero 5 = .ok (.aload_n 0, 1) := by decide +kernel
theorem dX9_howManyNotZero_6 : decode cX9_howManyNotZero 6 = .ok (.arraylength, 1) := by decide +kernel
theorem dX9_howManyNotZero_7 : decode cX9_howManyNotZero 7 = .ok (.if_icmp .ge 18, 3) := by decide +kernel
theorem dX9_howManyNotZero_10 : decode cX9_howManyNotZero 10 = .ok (.aload_n 0, 1) := by decide +kernel
theorem dX9_howManyNotZero_11 : decode cX9_howManyNotZero 11 = .ok (.iload_n 2, 1) := by decide +kernel
theorem dX9_howManyNotZero_12 : decode cX9_howManyNotZero 12 = .ok (.iaload, 1) := by decide +kernel
theorem dX9_howManyNotZero_13 : decode cX9_howManyNotZero 13 = .ok (.ifCond .eq 6, 3) := by decide +kernel
theorem dX9_howManyNotZero_16 : decode cX9_howManyNotZero 16 = .ok (.iinc 1 1, 3) := by decide +kernel
theorem dX9_howManyNotZero_19 : decode cX9_howManyNotZero 19 = .ok (.iinc 2 1, 3) := by decide +kernel
theorem dX9_howManyNotZero_22 : decode cX9_howManyNotZero 22 = .ok (.goto (-18), 3) := by decide +kernel
theorem dX9_howManyNotZero_25 : decode cX9_howManyNotZero 25 = .ok (.iload_n 1, 1) := by decide +kernel
theorem dX9_howManyNotZero_26 : decode cX9_howManyNotZero 26 = .ok (.ireturn, 1) := by decide +kernel
theorem dX9_commonDivisor_0 : decode cX9_commonDivisor 0 = .ok (.iload_n 0, 1) := by decide +kernel
theorem dX9_commonDivisor_1 : decode cX9_commonDivisor 1 = .ok (.istore_n 2, 1) := by decide +kernel
theorem dX9_commonDivisor_2 : decode cX9_commonDivisor 2 = .ok (.iload_n 1, 1) := by decide +kernel
theorem dX9_commonDivisor_3 : decode cX9_commonDivisor 3 = .ok (.istore_n 3, 1) := by decide +kernel
theorem dX9_commonDivisor_4 : decode cX9_commonDivisor 4 = .ok (.iconst 0, 1) := by decide +kernel
theorem dX9_commonDivisor_5 : decode cX9_commonDivisor 5 = .ok (.istore 4, 2) := by decide +kernel
theorem dX9_commonDivisor_7 : decode cX9_commonDivisor 7 = .ok (.iload 4, 2) := by decide +kernel
theorem dX9_commonDivisor_9 : decode cX9_commonDivisor 9 = .ok (.bipush 64, 2) := by decide +kernel
theorem dX9_commonDivisor_11 : decode cX9_commonDivisor 11 = .ok (.if_icmp .ge 23, 3) := by decide +kernel
theorem dX9_commonDivisor_14 : decode cX9_commonDivisor 14 = .ok (.iload_n 3, 1) := by decide +kernel
theorem dX9_commonDivisor_15 : decode cX9_commonDivisor 15 = .ok (.ifCond .eq 19, 3) := by decide +kernel
theorem dX9_commonDivisor_18 : decode cX9_commonDivisor 18 = .ok (.iload_n 2, 1) := by decide +kernel
theorem dX9_commonDivisor_19 : decode cX9_commonDivisor 19 = .ok (.iload_n 3, 1) := by decide +kernel
theorem dX9_commonDivisor_20 : decode cX9_commonDivisor 20 = .ok (.irem, 1) := by decide +kernel
theorem dX9_commonDivisor_21 : decode cX9_commonDivisor 21 = .ok (.istore 5, 2) := by decide +kernel
theorem dX9_commonDivisor_23 : decode cX9_commonDivisor 23 = .ok (.iload_n 3, 1) := by decide +kernel
theorem dX9_commonDivisor_24 : decode cX9_commonDivisor 24 = .ok (.istore_n 2, 1) := by decide +kernel
theorem dX9_commonDivisor_25 : decode cX9_commonDivisor 25 = .ok (.iload 5, 2) := by decide +kernel
theorem dX9_commonDivisor_27 : decode cX9_commonDivisor 27 = .ok (.istore_n 3, 1) := by decide +kernel
theorem dX9_commonDivisor_28 : decode cX9_commonDivisor 28 = .ok (.iinc 4 1, 3) := by decide +kernel
theorem dX9_commonDivisor_31 : decode cX9_commonDivisor 31 = .ok (.goto (-24), 3) := by decide +kernel
theorem dX9_commonDivisor_34 : decode cX9_commonDivisor 34 = .ok (.iload_n 2, 1) := by decide +kernel
theorem dX9_commonDivisor_35 : decode cX9_commonDivisor 35 = .ok (.ifCond .ne 7, 3) := by decide +kernel
theorem dX9_commonDivisor_38 : decode cX9_commonDivisor 38 = .ok (.iconst 1, 1) := by decide +kernel
theorem dX9_commonDivisor_39 : decode cX9_commonDivisor 39 = .ok (.goto 4, 3) := by decide +kernel
theorem dX9_commonDivisor_42 : decode cX9_commonDivisor 42 = .ok (.iload_n 2, 1) := by decide +kernel
theorem dX9_commonDivisor_43 : decode cX9_commonDivisor 43 = .ok (.ireturn, 1) := by decide +kernel
