theorem dX6_nameAtDepth_0 : decode cX6_nameAtDepth 0 = .ok (.iconst 0, 1) := by decide +kernel
theorem dX6_nameAtDepth_1 : decode cX6_nameAtDepth 1 = .ok (.istore_n 2, 1) := by decide +kernel
theorem dX6_nameAtDepth_2 : decode cX6_nameAtDepth 2 = .ok (.aload_n 0, 1) := by decide +kernel
theorem dX6_nameAtDepth_3 : decode cX6_nameAtDepth 3 = .ok (.getfield 24, 3) := by decide +kernel
theorem dX6_nameAtDepth_6 : decode cX6_nameAtDepth 6 = .ok (.iconst 1, 1) := by decide +kernel
theorem dX6_nameAtDepth_7 : decode cX6_nameAtDepth 7 = .ok (.isub, 1) := by decide +kernel
theorem dX6_nameAtDepth_8 : decode cX6_nameAtDepth 8 = .ok (.istore_n 3, 1) := by decide +kernel
theorem dX6_nameAtDepth_9 : decode cX6_nameAtDepth 9 = .ok (.iload_n 3, 1) := by decide +kernel
theorem dX6_nameAtDepth_10 : decode cX6_nameAtDepth 10 = .ok (.ifCond .lt 60, 3) := by decide +kernel
theorem dX6_nameAtDepth_13 : decode cX6_nameAtDepth 13 = .ok (.iload_n 2, 1) := by decide +kernel
theorem dX6_nameAtDepth_14 : decode cX6_nameAtDepth 14 = .ok (.iconst 1, 1) := by decide +kernel
theorem dX6_nameAtDepth_15 : decode cX6_nameAtDepth 15 = .ok (.aload_n 0, 1) := by decide +kernel
theorem dX6_nameAtDepth_16 : decode cX6_nameAtDepth 16 = .ok (.getfield 15, 3) := by decide +kernel
theorem dX6_nameAtDepth_19 : decode cX6_nameAtDepth 19 = .ok (.iload_n 3, 1) := by decide +kernel
theorem dX6_nameAtDepth_20 : decode cX6_nameAtDepth 20 = .ok (.iaload, 1) := by decide +kernel
theorem dX6_nameAtDepth_21 : decode cX6_nameAtDepth 21 = .ok (.ishl, 1) := by decide +kernel
theorem dX6_nameAtDepth_22 : decode cX6_nameAtDepth 22 = .ok (.iand, 1) := by decide +kernel
theorem dX6_nameAtDepth_23 : decode cX6_nameAtDepth 23 = .ok (.ifCond .eq 7, 3) := by decide +kernel
theorem dX6_nameAtDepth_26 : decode cX6_nameAtDepth 26 = .ok (.iconst 1, 1) := by decide +kernel
theorem dX6_nameAtDepth_27 : decode cX6_nameAtDepth 27 = .ok (.goto 4, 3) := by decide +kernel
theorem dX6_nameAtDepth_30 : decode cX6_nameAtDepth 30 = .ok (.iconst 0, 1) := by decide +kernel
theorem dX6_nameAtDepth_31 : decode cX6_nameAtDepth 31 = .ok (.istore 4, 2) := by decide +kernel
theorem dX6_nameAtDepth_33 : decode cX6_nameAtDepth 33 = .ok (.iload 4, 2) := by decide +kernel
theorem dX6_nameAtDepth_35 : decode cX6_nameAtDepth 35 = .ok (.ifCond .ne 18, 3) := by decide +kernel
theorem dX6_nameAtDepth_38 : decode cX6_nameAtDepth 38 = .ok (.iload_n 2, 1) := by decide +kernel
theorem dX6_nameAtDepth_39 : decode cX6_nameAtDepth 39 = .ok (.invokestatic 36, 3) := by decide +kernel
theorem dX6_nameAtDepth_42 : decode cX6_nameAtDepth 42 = .ok (.iload_n 1, 1) := by decide +kernel
theorem dX6_nameAtDepth_43 : decode cX6_nameAtDepth 43 = .ok (.if_icmp .ne 10, 3) := by decide +kernel
theorem dX6_nameAtDepth_46 : decode cX6_nameAtDepth 46 = .ok (.aload_n 0, 1) := by decide +kernel
theorem dX6_nameAtDepth_47 : decode cX6_nameAtDepth 47 = .ok (.getfield 15, 3) := by decide +kernel
theorem dX6_nameAtDepth_50 : decode cX6_nameAtDepth 50 = .ok (.iload_n 3, 1) := by decide +kernel
theorem dX6_nameAtDepth_51 : decode cX6_nameAtDepth 51 = .ok (.iaload, 1) := by decide +kernel
theorem dX6_nameAtDepth_52 : decode cX6_nameAtDepth 52 = .ok (.ireturn, 1) := by decide +kernel
theorem dX6_nameAtDepth_53 : decode cX6_nameAtDepth 53 = .ok (.iload_n 2, 1) := by decide +kernel
theorem dX6_nameAtDepth_54 : decode cX6_nameAtDepth 54 = .ok (.iconst 1, 1) := by decide +kernel
theorem dX6_nameAtDepth_55 : decode cX6_nameAtDepth 55 = .ok (.aload_n 0, 1) := by decide +kernel
theorem dX6_nameAtDepth_56 : decode cX6_nameAtDepth 56 = .ok (.getfield 15, 3) := by decide +kernel
theorem dX6_nameAtDepth_59 : decode cX6_nameAtDepth 59 = .ok (.iload_n 3, 1) := by decide +kernel
theorem dX6_nameAtDepth_60 : decode cX6_nameAtDepth 60 = .ok (.iaload, 1) := by decide +kernel
theorem dX6_nameAtDepth_61 : decode cX6_nameAtDepth 61 = .ok (.ishl, 1) := by decide +kernel
theorem dX6_nameAtDepth_62 : decode cX6_nameAtDepth 62 = .ok (.ior, 1) := by decide +kernel
theorem dX6_nameAtDepth_63 : decode cX6_nameAtDepth 63 = .ok (.istore_n 2, 1) := by decide +kernel
theorem dX6_nameAtDepth_64 : decode cX6_nameAtDepth 64 = .ok (.iinc 3 (-1), 3) := by decide +kernel
theorem dX6_nameAtDepth_67 : decode cX6_nameAtDepth 67 = .ok (.goto (-58), 3) := by decide +kernel
theorem dX6_nameAtDepth_70 : decode cX6_nameAtDepth 70 = .ok (.iconst 0, 1) := by decide +kernel
theorem dX6_nameAtDepth_71 : decode cX6_nameAtDepth 71 = .ok (.ireturn, 1) := by decide +kernel
theorem dX6_leastNewName_0 : decode cX6_leastNewName 0 = .ok (.aload_n 0, 1) := by decide +kernel
theorem dX6_leastNewName_1 : decode cX6_leastNewName 1 = .ok (.invokevirtual 42, 3) := by decide +kernel
theorem dX6_leastNewName_4 : decode cX6_leastNewName 4 = .ok (.istore_n 1, 1) := by decide +kernel
theorem dX6_leastNewName_5 : decode cX6_leastNewName 5 = .ok (.iconst 0, 1) := by decide +kernel
theorem dX6_leastNewName_6 : decode cX6_leastNewName 6 = .ok (.istore_n 2, 1) := by decide +kernel
theorem dX6_leastNewName_7 : decode cX6_leastNewName 7 = .ok (.iload_n 2, 1) := by decide +kernel
theorem dX6_leastNewName_8 : decode cX6_leastNewName 8 = .ok (.bipush 9, 2) := by decide +kernel
theorem dX6_leastNewName_10 : decode cX6_leastNewName 10 = .ok (.if_icmp .ge 17, 3) := by decide +kernel
theorem dX6_leastNewName_13 : decode cX6_leastNewName 13 = .ok (.iload_n 1, 1) := by decide +kernel
theorem dX6_leastNewName_14 : decode cX6_leastNewName 14 = .ok (.iconst 1, 1) := by decide +kernel
theorem dX6_leastNewName_15 : decode cX6_leastNewName 15 = .ok (.iload_n 2, 1) := by decide +kernel
theorem dX6_leastNewName_16 : decode cX6_leastNewName 16 = .ok (.ishl, 1) := by decide +kernel
theorem dX6_leastNewName_17 : decode cX6_leastNewName 17 = .ok (.iand, 1) := by decide +kernel
theorem dX6_leastNewName_18 : decode cX6_leastNewName 18 = .ok (.ifCond .eq 9, 3) := by decide +kernel
theorem dX6_leastNewName_21 : decode cX6_leastNewName 21 = .ok (.iinc 2 1, 3) := by decide +kernel
theorem dX6_leastNewName_24 : decode cX6_leastNewName 24 = .ok (.goto (-17), 3) := by decide +kernel
theorem dX6_leastNewName_27 : decode cX6_leastNewName 27 = .ok (.iload_n 2, 1) := by decide +kernel
theorem dX6_leastNewName_28 : decode cX6_leastNewName 28 = .ok (.ireturn, 1) := by decide +kernel
theorem dX6_becomeHalf_0 : decode cX6_becomeHalf 0 = .ok (.aload_n 0, 1) := by decide +kernel
theorem dX6_becomeHalf_1 : decode cX6_becomeHalf 1 = .ok (.iconst 0, 1) := by decide +kernel
theorem dX6_becomeHalf_2 : decode cX6_becomeHalf 2 = .ok (.putfield 24, 3) := by decide +kernel
theorem dX6_becomeHalf_5 : decode cX6_becomeHalf 5 = .ok (.iload_n 2, 1) := by decide +kernel
theorem dX6_becomeHalf_6 : decode cX6_becomeHalf 6 = .ok (.istore_n 3, 1) := by decide +kernel
theorem dX6_becomeHalf_7 : decode cX6_becomeHalf 7 = .ok (.iload_n 3, 1) := by decide +kernel
theorem dX6_becomeHalf_8 : decode cX6_becomeHalf 8 = .ok (.aload_n 1, 1) := by decide +kernel
theorem dX6_becomeHalf_9 : decode cX6_becomeHalf 9 = .ok (.getfield 24, 3) := by decide +kernel
theorem dX6_becomeHalf_12 : decode cX6_becomeHalf 12 = .ok (.if_icmp .ge 31, 3) := by decide +kernel
theorem dX6_becomeHalf_15 : decode cX6_becomeHalf 15 = .ok (.aload_n 0, 1) := by decide +kernel
theorem dX6_becomeHalf_16 : decode cX6_becomeHalf 16 = .ok (.aload_n 1, 1) := by decide +kernel
theorem dX6_becomeHalf_17 : decode cX6_becomeHalf 17 = .ok (.getfield 9, 3) := by decide +kernel
theorem dX6_becomeHalf_20 : decode cX6_becomeHalf 20 = .ok (.iload_n 3, 1) := by decide +kernel
theorem dX6_becomeHalf_21 : decode cX6_becomeHalf 21 = .ok (.iaload, 1) := by decide +kernel
theorem dX6_becomeHalf_22 : decode cX6_becomeHalf 22 = .ok (.aload_n 1, 1) := by decide +kernel
theorem dX6_becomeHalf_23 : decode cX6_becomeHalf 23 = .ok (.getfield 15, 3) := by decide +kernel
theorem dX6_becomeHalf_26 : decode cX6_becomeHalf 26 = .ok (.iload_n 3, 1) := by decide +kernel
theorem dX6_becomeHalf_27 : decode cX6_becomeHalf 27 = .ok (.iaload, 1) := by decide +kernel
theorem dX6_becomeHalf_28 : decode cX6_becomeHalf 28 = .ok (.aload_n 1, 1) := by decide +kernel
theorem dX6_becomeHalf_29 : decode cX6_becomeHalf 29 = .ok (.getfield 18, 3) := by decide +kernel
theorem dX6_becomeHalf_32 : decode cX6_becomeHalf 32 = .ok (.iload_n 3, 1) := by decide +kernel
theorem dX6_becomeHalf_33 : decode cX6_becomeHalf 33 = .ok (.iaload, 1) := by decide +kernel
theorem dX6_becomeHalf_34 : decode cX6_becomeHalf 34 = .ok (.invokevirtual 46, 3) := by decide +kernel
theorem dX6_becomeHalf_37 : decode cX6_becomeHalf 37 = .ok (.iinc 3 2, 3) := by decide +kernel
theorem dX6_becomeHalf_40 : decode cX6_becomeHalf 40 = .ok (.goto (-33), 3) := by decide +kernel
theorem dX6_becomeHalf_43 : decode cX6_becomeHalf 43 = .ok (.return_, 1) := by decide +kernel
theorem dX6_countSlots_0 : decode cX6_countSlots 0 = .ok (.aload_n 2, 1) := by decide +kernel
theorem dX6_countSlots_1 : decode cX6_countSlots 1 = .ok (.iconst 0, 1) := by decide +kernel
theorem dX6_countSlots_2 : decode cX6_countSlots 2 = .ok (.invokestatic 50, 3) := by decide +kernel
theorem dX6_countSlots_5 : decode cX6_countSlots 5 = .ok (.iload_n 1, 1) := by decide +kernel
theorem dX6_countSlots_6 : decode cX6_countSlots 6 = .ok (.iconst 3, 1) := by decide +kernel
theorem dX6_countSlots_7 : decode cX6_countSlots 7 = .ok (.if_icmp .ne 4, 3) := by decide +kernel
theorem dX6_countSlots_10 : decode cX6_countSlots 10 = .ok (.return_, 1) := by decide +kernel
theorem dX6_countSlots_11 : decode cX6_countSlots 11 = .ok (.iconst 0, 1) := by decide +kernel
theorem dX6_countSlots_12 : decode cX6_countSlots 12 = .ok (.istore_n 3, 1) := by decide +kernel
theorem dX6_countSlots_13 : decode cX6_countSlots 13 = .ok (.iload_n 3, 1) := by decide +kernel
theorem dX6_countSlots_14 : decode cX6_countSlots 14 = .ok (.aload_n 0, 1) := by decide +kernel
theorem dX6_countSlots_15 : decode cX6_countSlots 15 = .ok (.getfield 24, 3) := by decide +kernel
theorem dX6_countSlots_18 : decode cX6_countSlots 18 = .ok (.if_icmp .ge 35, 3) := by decide +kernel
theorem dX6_countSlots_21 : decode cX6_countSlots 21 = .ok (.aload_n 0, 1) := by decide +kernel
theorem dX6_countSlots_22 : decode cX6_countSlots 22 = .ok (.iload_n 1, 1) := by decide +kernel
theorem dX6_countSlots_23 : decode cX6_countSlots 23 = .ok (.iload_n 3, 1) := by decide +kernel
theorem dX6_countSlots_24 : decode cX6_countSlots 24 = .ok (.invokevirtual 56, 3) := by decide +kernel
theorem dX6_countSlots_27 : decode cX6_countSlots 27 = .ok (.istore 4, 2) := by decide +kernel
theorem dX6_countSlots_29 : decode cX6_countSlots 29 = .ok (.iload 4, 2) := by decide +kernel
theorem dX6_countSlots_31 : decode cX6_countSlots 31 = .ok (.aload_n 2, 1) := by decide +kernel
theorem dX6_countSlots_32 : decode cX6_countSlots 32 = .ok (.arraylength, 1) := by decide +kernel
theorem dX6_countSlots_33 : decode cX6_countSlots 33 = .ok (.invokestatic 28, 3) := by decide +kernel
theorem dX6_countSlots_36 : decode cX6_countSlots 36 = .ok (.ifCond .eq 11, 3) := by decide +kernel
theorem dX6_countSlots_39 : decode cX6_countSlots 39 = .ok (.aload_n 2, 1) := by decide +kernel
theorem dX6_countSlots_40 : decode cX6_countSlots 40 = .ok (.iload 4, 2) := by decide +kernel
theorem dX6_countSlots_42 : decode cX6_countSlots 42 = .ok (.dup2, 1) := by decide +kernel
theorem dX6_countSlots_43 : decode cX6_countSlots 43 = .ok (.iaload, 1) := by decide +kernel
theorem dX6_countSlots_44 : decode cX6_countSlots 44 = .ok (.iconst 1, 1) := by decide +kernel
theorem dX6_countSlots_45 : decode cX6_countSlots 45 = .ok (.iadd, 1) := by decide +kernel
theorem dX6_countSlots_46 : decode cX6_countSlots 46 = .ok (.iastore, 1) := by decide +kernel
theorem dX6_countSlots_47 : decode cX6_countSlots 47 = .ok (.iinc 3 1, 3) := by decide +kernel
theorem dX6_countSlots_50 : decode cX6_countSlots 50 = .ok (.goto (-37), 3) := by decide +kernel
theorem dX6_countSlots_53 : decode cX6_countSlots 53 = .ok (.return_, 1) := by decide +kernel
theorem dX6_slotOf_0 : decode cX6_slotOf 0 = .ok (.iload_n 1, 1) := by decide +kernel
theorem dX6_slotOf_1 : decode cX6_slotOf 1 = .ok (.lookupswitch 61 #[(0, 27), (1, 38)], 27) := by decide +kernel
theorem dX6_slotOf_28 : decode cX6_slotOf 28 = .ok (.aload_n 0, 1) := by decide +kernel
theorem dX6_slotOf_29 : decode cX6_slotOf 29 = .ok (.iload_n 2, 1) := by decide +kernel
theorem dX6_slotOf_30 : decode cX6_slotOf 30 = .ok (.invokevirtual 60, 3) := by decide +kernel
theorem dX6_slotOf_33 : decode cX6_slotOf 33 = .ok (.bipush 10, 2) := by decide +kernel
theorem dX6_slotOf_35 : decode cX6_slotOf 35 = .ok (.invokestatic 63, 3) := by decide +kernel
theorem dX6_slotOf_38 : decode cX6_slotOf 38 = .ok (.ireturn, 1) := by decide +kernel
theorem dX6_slotOf_39 : decode cX6_slotOf 39 = .ok (.aload_n 0, 1) := by decide +kernel
theorem dX6_slotOf_40 : decode cX6_slotOf 40 = .ok (.getfield 21, 3) := by decide +kernel
theorem dX6_slotOf_43 : decode cX6_slotOf 43 = .ok (.iload_n 2, 1) := by decide +kernel
theorem dX6_slotOf_44 : decode cX6_slotOf 44 = .ok (.iaload, 1) := by decide +kernel
theorem dX6_slotOf_45 : decode cX6_slotOf 45 = .ok (.ldc 41, 2) := by decide +kernel
theorem dX6_slotOf_47 : decode cX6_slotOf 47 = .ok (.if_icmp .ne 8, 3) := by decide +kernel
theorem dX6_slotOf_50 : decode cX6_slotOf 50 = .ok (.bipush 10, 2) := by decide +kernel
theorem dX6_slotOf_52 : decode cX6_slotOf 52 = .ok (.goto 9, 3) := by decide +kernel
theorem dX6_slotOf_55 : decode cX6_slotOf 55 = .ok (.aload_n 0, 1) := by decide +kernel
theorem dX6_slotOf_56 : decode cX6_slotOf 56 = .ok (.getfield 21, 3) := by decide +kernel
theorem dX6_slotOf_59 : decode cX6_slotOf 59 = .ok (.iload_n 2, 1) := by decide +kernel
theorem dX6_slotOf_60 : decode cX6_slotOf 60 = .ok (.iaload, 1) := by decide +kernel
theorem dX6_slotOf_61 : decode cX6_slotOf 61 = .ok (.ireturn, 1) := by decide +kernel
theorem dX6_slotOf_62 : decode cX6_slotOf 62 = .ok (.aload_n 0, 1) := by decide +kernel
theorem dX6_slotOf_63 : decode cX6_slotOf 63 = .ok (.getfield 18, 3) := by decide +kernel
theorem dX6_slotOf_66 : decode cX6_slotOf 66 = .ok (.iload_n 2, 1) := by decide +kernel
theorem dX6_slotOf_67 : decode cX6_slotOf 67 = .ok (.iaload, 1) := by decide +kernel
theorem dX6_slotOf_68 : decode cX6_slotOf 68 = .ok (.ireturn, 1) := by decide +kernel
theorem dX7_init_0 : decode cX7_init 0 = .ok (.aload_n 0, 1) := by decide +kernel
theorem dX7_init_1 : decode cX7_init 1 = .ok (.invokespecial 3, 3) := by decide +kernel
theorem dX7_init_4 : decode cX7_init 4 = .ok (.aload_n 0, 1) := by decide +kernel
theorem dX7_init_5 : decode cX7_init 5 = .ok (.bipush 60, 2) := by decide +kernel
theorem dX7_init_7 : decode cX7_init 7 = .ok (.newarray .int, 2) := by decide +kernel
theorem dX7_init_9 : decode cX7_init 9 = .ok (.putfield 9, 3) := by decide +kernel
theorem dX7_init_12 : decode cX7_init 12 = .ok (.aload_n 0, 1) := by decide +kernel
theorem dX7_init_13 : decode cX7_init 13 = .ok (.iconst 1, 1) := by decide +kernel
theorem dX7_init_14 : decode cX7_init 14 = .ok (.putfield 15, 3) := by decide +kernel
theorem dX7_init_17 : decode cX7_init 17 = .ok (.aload_n 0, 1) := by decide +kernel
theorem dX7_init_18 : decode cX7_init 18 = .ok (.iconst 0, 1) := by decide +kernel
theorem dX7_init_19 : decode cX7_init 19 = .ok (.putfield 19, 3) := by decide +kernel
theorem dX7_init_22 : decode cX7_init 22 = .ok (.aload_n 0, 1) := by decide +kernel
theorem dX7_init_23 : decode cX7_init 23 = .ok (.iconst 0, 1) := by decide +kernel
theorem dX7_init_24 : decode cX7_init 24 = .ok (.putfield 23, 3) := by decide +kernel
theorem dX7_init_27 : decode cX7_init 27 = .ok (.return_, 1) := by decide +kernel
theorem dX7_lay_0 : decode cX7_lay 0 = .ok (.aload_n 0, 1) := by decide +kernel
theorem dX7_lay_1 : decode cX7_lay 1 = .ok (.iconst 0, 1) := by decide +kernel
theorem dX7_lay_2 : decode cX7_lay 2 = .ok (.putfield 15, 3) := by decide +kernel
theorem dX7_lay_5 : decode cX7_lay 5 = .ok (.aload_n 0, 1) := by decide +kernel
theorem dX7_lay_6 : decode cX7_lay 6 = .ok (.iload_n 1, 1) := by decide +kernel
theorem dX7_lay_7 : decode cX7_lay 7 = .ok (.putfield 19, 3) := by decide +kernel
theorem dX7_lay_10 : decode cX7_lay 10 = .ok (.aload_n 0, 1) := by decide +kernel
theorem dX7_lay_11 : decode cX7_lay 11 = .ok (.iload_n 2, 1) := by decide +kernel
theorem dX7_lay_12 : decode cX7_lay 12 = .ok (.putfield 23, 3) := by decide +kernel
theorem dX7_lay_15 : decode cX7_lay 15 = .ok (.aload_n 0, 1) := by decide +kernel
theorem dX7_lay_16 : decode cX7_lay 16 = .ok (.getfield 9, 3) := by decide +kernel
theorem dX7_lay_19 : decode cX7_lay 19 = .ok (.iconst 0, 1) := by decide +kernel
theorem dX7_lay_20 : decode cX7_lay 20 = .ok (.invokestatic 26, 3) := by decide +kernel
theorem dX7_lay_23 : decode cX7_lay 23 = .ok (.return_, 1) := by decide +kernel
theorem dX7_hasPlaces_0 : decode cX7_hasPlaces 0 = .ok (.iload_n 1, 1) := by decide +kernel
theorem dX7_hasPlaces_1 : decode cX7_hasPlaces 1 = .ok (.ifCond .lt 29, 3) := by decide +kernel
theorem dX7_hasPlaces_4 : decode cX7_hasPlaces 4 = .ok (.iload_n 2, 1) := by decide +kernel
theorem dX7_hasPlaces_5 : decode cX7_hasPlaces 5 = .ok (.ifCond .lt 25, 3) := by decide +kernel
theorem dX7_hasPlaces_8 : decode cX7_hasPlaces 8 = .ok (.iload_n 2, 1) := by decide +kernel
theorem dX7_hasPlaces_9 : decode cX7_hasPlaces 9 = .ok (.aload_n 0, 1) := by decide +kernel
theorem dX7_hasPlaces_10 : decode cX7_hasPlaces 10 = .ok (.getfield 23, 3) := by decide +kernel
theorem dX7_hasPlaces_13 : decode cX7_hasPlaces 13 = .ok (.if_icmp .gt 17, 3) := by decide +kernel
theorem dX7_hasPlaces_16 : decode cX7_hasPlaces 16 = .ok (.iload_n 1, 1) := by decide +kernel
theorem dX7_hasPlaces_17 : decode cX7_hasPlaces 17 = .ok (.aload_n 0, 1) := by decide +kernel
theorem dX7_hasPlaces_18 : decode cX7_hasPlaces 18 = .ok (.getfield 23, 3) := by decide +kernel
theorem dX7_hasPlaces_21 : decode cX7_hasPlaces 21 = .ok (.iload_n 2, 1) := by decide +kernel
theorem dX7_hasPlaces_22 : decode cX7_hasPlaces 22 = .ok (.isub, 1) := by decide +kernel
theorem dX7_hasPlaces_23 : decode cX7_hasPlaces 23 = .ok (.if_icmp .gt 7, 3) := by decide +kernel
theorem dX7_hasPlaces_26 : decode cX7_hasPlaces 26 = .ok (.iconst 1, 1) := by decide +kernel
theorem dX7_hasPlaces_27 : decode cX7_hasPlaces 27 = .ok (.goto 4, 3) := by decide +kernel
theorem dX7_hasPlaces_30 : decode cX7_hasPlaces 30 = .ok (.iconst 0, 1) := by decide +kernel
theorem dX7_hasPlaces_31 : decode cX7_hasPlaces 31 = .ok (.ireturn, 1) := by decide +kernel
theorem dX7_put_0 : decode cX7_put 0 = .ok (.aload_n 0, 1) := by decide +kernel
theorem dX7_put_1 : decode cX7_put 1 = .ok (.getfield 19, 3) := by decide +kernel
theorem dX7_put_4 : decode cX7_put 4 = .ok (.ifCond .ne 8, 3) := by decide +kernel
theorem dX7_put_7 : decode cX7_put 7 = .ok (.iload_n 2, 1) := by decide +kernel
theorem dX7_put_8 : decode cX7_put 8 = .ok (.i2b, 1) := by decide +kernel
theorem dX7_put_9 : decode cX7_put 9 = .ok (.goto 17, 3) := by decide +kernel
theorem dX7_put_12 : decode cX7_put 12 = .ok (.aload_n 0, 1) := by decide +kernel
theorem dX7_put_13 : decode cX7_put 13 = .ok (.getfield 19, 3) := by decide +kernel
theorem dX7_put_16 : decode cX7_put 16 = .ok (.iconst 1, 1) := by decide +kernel
theorem dX7_put_17 : decode cX7_put 17 = .ok (.if_icmp .ne 8, 3) := by decide +kernel
theorem dX7_put_20 : decode cX7_put 20 = .ok (.iload_n 2, 1) := by decide +kernel
theorem dX7_put_21 : decode cX7_put 21 = .ok (.i2s, 1) := by decide +kernel
theorem dX7_put_22 : decode cX7_put 22 = .ok (.goto 4, 3) := by decide +kernel
theorem dX7_put_25 : decode cX7_put 25 = .ok (.iload_n 2, 1) := by decide +kernel
theorem dX7_put_26 : decode cX7_put 26 = .ok (.istore_n 3, 1) := by decide +kernel
theorem dX7_put_27 : decode cX7_put 27 = .ok (.iload_n 1, 1) := by decide +kernel
theorem dX7_put_28 : decode cX7_put 28 = .ok (.aload_n 0, 1) := by decide +kernel
theorem dX7_put_29 : decode cX7_put 29 = .ok (.getfield 23, 3) := by decide +kernel
theorem dX7_put_32 : decode cX7_put 32 = .ok (.invokestatic 32, 3) := by decide +kernel
theorem dX7_put_35 : decode cX7_put 35 = .ok (.ifCond .eq 10, 3) := by decide +kernel
theorem dX7_put_38 : decode cX7_put 38 = .ok (.aload_n 0, 1) := by decide +kernel
theorem dX7_put_39 : decode cX7_put 39 = .ok (.getfield 9, 3) := by decide +kernel
theorem dX7_put_42 : decode cX7_put 42 = .ok (.iload_n 1, 1) := by decide +kernel
theorem dX7_put_43 : decode cX7_put 43 = .ok (.iload_n 3, 1) := by decide +kernel
theorem dX7_put_44 : decode cX7_put 44 = .ok (.iastore, 1) := by decide +kernel
theorem dX7_put_45 : decode cX7_put 45 = .ok (.iload_n 3, 1) := by decide +kernel
theorem dX7_put_46 : decode cX7_put 46 = .ok (.ireturn, 1) := by decide +kernel
theorem dX7_hasAsks_0 : decode cX7_hasAsks 0 = .ok (.iload_n 3, 1) := by decide +kernel
theorem dX7_hasAsks_1 : decode cX7_hasAsks 1 = .ok (.istore 4, 2) := by decide +kernel
theorem dX7_hasAsks_3 : decode cX7_hasAsks 3 = .ok (.iconst 0, 1) := by decide +kernel
theorem dX7_hasAsks_4 : decode cX7_hasAsks 4 = .ok (.istore 5, 2) := by decide +kernel
theorem dX7_hasAsks_6 : decode cX7_hasAsks 6 = .ok (.iload 5, 2) := by decide +kernel
theorem dX7_hasAsks_8 : decode cX7_hasAsks 8 = .ok (.iload_n 2, 1) := by decide +kernel
theorem dX7_hasAsks_9 : decode cX7_hasAsks 9 = .ok (.if_icmp .ge 91, 3) := by decide +kernel
theorem dX7_hasAsks_12 : decode cX7_hasAsks 12 = .ok (.iload_n 1, 1) := by decide +kernel
theorem dX7_hasAsks_13 : decode cX7_hasAsks 13 = .ok (.iconst 3, 1) := by decide +kernel
theorem dX7_hasAsks_14 : decode cX7_hasAsks 14 = .ok (.iload 5, 2) := by decide +kernel
theorem dX7_hasAsks_16 : decode cX7_hasAsks 16 = .ok (.imul, 1) := by decide +kernel
theorem dX7_hasAsks_17 : decode cX7_hasAsks 17 = .ok (.iadd, 1) := by decide +kernel
theorem dX7_hasAsks_18 : decode cX7_hasAsks 18 = .ok (.istore 6, 2) := by decide +kernel
theorem dX7_hasAsks_20 : decode cX7_hasAsks 20 = .ok (.aload_n 0, 1) := by decide +kernel
theorem dX7_hasAsks_21 : decode cX7_hasAsks 21 = .ok (.getfield 9, 3) := by decide +kernel
theorem dX7_hasAsks_24 : decode cX7_hasAsks 24 = .ok (.iload 6, 2) := by decide +kernel
theorem dX7_hasAsks_26 : decode cX7_hasAsks 26 = .ok (.iaload, 1) := by decide +kernel
theorem dX7_hasAsks_27 : decode cX7_hasAsks 27 = .ok (.istore 7, 2) := by decide +kernel
theorem dX7_hasAsks_29 : decode cX7_hasAsks 29 = .ok (.iload 7, 2) := by decide +kernel
theorem dX7_hasAsks_31 : decode cX7_hasAsks 31 = .ok (.iload 4, 2) := by decide +kernel
theorem dX7_hasAsks_33 : decode cX7_hasAsks 33 = .ok (.if_icmp .lt 55, 3) := by decide +kernel
theorem dX7_hasAsks_36 : decode cX7_hasAsks 36 = .ok (.iload 7, 2) := by decide +kernel
theorem dX7_hasAsks_38 : decode cX7_hasAsks 38 = .ok (.sipush 9999, 3) := by decide +kernel
theorem dX7_hasAsks_41 : decode cX7_hasAsks 41 = .ok (.if_icmp .gt 47, 3) := by decide +kernel
theorem dX7_hasAsks_44 : decode cX7_hasAsks 44 = .ok (.aload_n 0, 1) := by decide +kernel
theorem dX7_hasAsks_45 : decode cX7_hasAsks 45 = .ok (.getfield 9, 3) := by decide +kernel
theorem dX7_hasAsks_48 : decode cX7_hasAsks 48 = .ok (.iload 6, 2) := by decide +kernel
theorem dX7_hasAsks_50 : decode cX7_hasAsks 50 = .ok (.iconst 1, 1) := by decide +kernel
theorem dX7_hasAsks_51 : decode cX7_hasAsks 51 = .ok (.iadd, 1) := by decide +kernel
theorem dX7_hasAsks_52 : decode cX7_hasAsks 52 = .ok (.iaload, 1) := by decide +kernel
theorem dX7_hasAsks_53 : decode cX7_hasAsks 53 = .ok (.bipush 10, 2) := by decide +kernel
theorem dX7_hasAsks_55 : decode cX7_hasAsks 55 = .ok (.invokestatic 32, 3) := by decide +kernel
theorem dX7_hasAsks_58 : decode cX7_hasAsks 58 = .ok (.ifCond .eq 30, 3) := by decide +kernel
theorem dX7_hasAsks_61 : decode cX7_hasAsks 61 = .ok (.aload_n 0, 1) := by decide +kernel
theorem dX7_hasAsks_62 : decode cX7_hasAsks 62 = .ok (.getfield 9, 3) := by decide +kernel
theorem dX7_hasAsks_65 : decode cX7_hasAsks 65 = .ok (.iload 6, 2) := by decide +kernel
theorem dX7_hasAsks_67 : decode cX7_hasAsks 67 = .ok (.iconst 2, 1) := by decide +kernel
theorem dX7_hasAsks_68 : decode cX7_hasAsks 68 = .ok (.iadd, 1) := by decide +kernel
theorem dX7_hasAsks_69 : decode cX7_hasAsks 69 = .ok (.iaload, 1) := by decide +kernel
theorem dX7_hasAsks_70 : decode cX7_hasAsks 70 = .ok (.iconst 1, 1) := by decide +kernel
theorem dX7_hasAsks_71 : decode cX7_hasAsks 71 = .ok (.if_icmp .lt 17, 3) := by decide +kernel
theorem dX7_hasAsks_74 : decode cX7_hasAsks 74 = .ok (.aload_n 0, 1) := by decide +kernel
theorem dX7_hasAsks_75 : decode cX7_hasAsks 75 = .ok (.getfield 9, 3) := by decide +kernel
theorem dX7_hasAsks_78 : decode cX7_hasAsks 78 = .ok (.iload 6, 2) := by decide +kernel
theorem dX7_hasAsks_80 : decode cX7_hasAsks 80 = .ok (.iconst 2, 1) := by decide +kernel
theorem dX7_hasAsks_81 : decode cX7_hasAsks 81 = .ok (.iadd, 1) := by decide +kernel
theorem dX7_hasAsks_82 : decode cX7_hasAsks 82 = .ok (.iaload, 1) := by decide +kernel
theorem dX7_hasAsks_83 : decode cX7_hasAsks 83 = .ok (.bipush 9, 2) := by decide +kernel
theorem dX7_hasAsks_85 : decode cX7_hasAsks 85 = .ok (.if_icmp .le 5, 3) := by decide +kernel
theorem dX7_hasAsks_88 : decode cX7_hasAsks 88 = .ok (.iconst 0, 1) := by decide +kernel
theorem dX7_hasAsks_89 : decode cX7_hasAsks 89 = .ok (.ireturn, 1) := by decide +kernel
theorem dX7_hasAsks_90 : decode cX7_hasAsks 90 = .ok (.iload 7, 2) := by decide +kernel
theorem dX7_hasAsks_92 : decode cX7_hasAsks 92 = .ok (.istore 4, 2) := by decide +kernel
theorem dX7_hasAsks_94 : decode cX7_hasAsks 94 = .ok (.iinc 5 1, 3) := by decide +kernel
theorem dX7_hasAsks_97 : decode cX7_hasAsks 97 = .ok (.goto (-91), 3) := by decide +kernel
theorem dX7_hasAsks_100 : decode cX7_hasAsks 100 = .ok (.iconst 1, 1) := by decide +kernel
theorem dX7_hasAsks_101 : decode cX7_hasAsks 101 = .ok (.ireturn, 1) := by decide +kernel
theorem dX8_init_0 : decode cX8_init 0 = .ok (.aload_n 0, 1) := by decide +kernel
theorem dX8_init_1 : decode cX8_init 1 = .ok (.invokespecial 3, 3) := by decide +kernel
theorem dX8_init_4 : decode cX8_init 4 = .ok (.aload_n 0, 1) := by decide +kernel
theorem dX8_init_5 : decode cX8_init 5 = .ok (.sipush 400, 3) := by decide +kernel
theorem dX8_init_8 : decode cX8_init 8 = .ok (.newarray .int, 2) := by decide +kernel
theorem dX8_init_10 : decode cX8_init 10 = .ok (.putfield 9, 3) := by decide +kernel
theorem dX8_init_13 : decode cX8_init 13 = .ok (.aload_n 0, 1) := by decide +kernel
theorem dX8_init_14 : decode cX8_init 14 = .ok (.iconst 4, 1) := by decide +kernel
theorem dX8_init_15 : decode cX8_init 15 = .ok (.bipush 11, 2) := by decide +kernel
theorem dX8_init_17 : decode cX8_init 17 = .ok (.multianewarray 15 2, 4) := by decide +kernel
theorem dX8_init_21 : decode cX8_init 21 = .ok (.putfield 17, 3) := by decide +kernel
theorem dX8_init_24 : decode cX8_init 24 = .ok (.aload_n 0, 1) := by decide +kernel
theorem dX8_init_25 : decode cX8_init 25 = .ok (.iconst 0, 1) := by decide +kernel
theorem dX8_init_26 : decode cX8_init 26 = .ok (.putfield 20, 3) := by decide +kernel
theorem dX8_init_29 : decode cX8_init 29 = .ok (.aload_n 0, 1) := by decide +kernel
theorem dX8_init_30 : decode cX8_init 30 = .ok (.iconst 0, 1) := by decide +kernel
theorem dX8_init_31 : decode cX8_init 31 = .ok (.putfield 24, 3) := by decide +kernel
theorem dX8_init_34 : decode cX8_init 34 = .ok (.aload_n 0, 1) := by decide +kernel
theorem dX8_init_35 : decode cX8_init 35 = .ok (.iconst 0, 1) := by decide +kernel
theorem dX8_init_36 : decode cX8_init 36 = .ok (.putfield 27, 3) := by decide +kernel
theorem dX8_init_39 : decode cX8_init 39 = .ok (.aload_n 0, 1) := by decide +kernel
theorem dX8_init_40 : decode cX8_init 40 = .ok (.iconst 0, 1) := by decide +kernel
theorem dX8_init_41 : decode cX8_init 41 = .ok (.putfield 30, 3) := by decide +kernel
theorem dX8_init_44 : decode cX8_init 44 = .ok (.aload_n 0, 1) := by decide +kernel
theorem dX8_init_45 : decode cX8_init 45 = .ok (.iconst 0, 1) := by decide +kernel
theorem dX8_init_46 : decode cX8_init 46 = .ok (.putfield 33, 3) := by decide +kernel
theorem dX8_init_49 : decode cX8_init 49 = .ok (.return_, 1) := by decide +kernel
theorem dX8_append_0 : decode cX8_append 0 = .ok (.aload_n 0, 1) := by decide +kernel
theorem dX8_append_1 : decode cX8_append 1 = .ok (.getfield 20, 3) := by decide +kernel
theorem dX8_append_4 : decode cX8_append 4 = .ok (.sipush 400, 3) := by decide +kernel
theorem dX8_append_7 : decode cX8_append 7 = .ok (.invokestatic 36, 3) := by decide +kernel
theorem dX8_append_10 : decode cX8_append 10 = .ok (.ifCond .eq 23, 3) := by decide +kernel
theorem dX8_append_13 : decode cX8_append 13 = .ok (.aload_n 0, 1) := by decide +kernel
theorem dX8_append_14 : decode cX8_append 14 = .ok (.getfield 9, 3) := by decide +kernel
theorem dX8_append_17 : decode cX8_append 17 = .ok (.aload_n 0, 1) := by decide +kernel
theorem dX8_append_18 : decode cX8_append 18 = .ok (.getfield 20, 3) := by decide +kernel
theorem dX8_append_21 : decode cX8_append 21 = .ok (.iload_n 1, 1) := by decide +kernel
theorem dX8_append_22 : decode cX8_append 22 = .ok (.iastore, 1) := by decide +kernel
theorem dX8_append_23 : decode cX8_append 23 = .ok (.aload_n 0, 1) := by decide +kernel
theorem dX8_append_24 : decode cX8_append 24 = .ok (.dup, 1) := by decide +kernel
theorem dX8_append_25 : decode cX8_append 25 = .ok (.getfield 20, 3) := by decide +kernel
theorem dX8_append_28 : decode cX8_append 28 = .ok (.iconst 1, 1) := by decide +kernel
theorem dX8_append_29 : decode cX8_append 29 = .ok (.iadd, 1) := by decide +kernel
theorem dX8_append_30 : decode cX8_append 30 = .ok (.putfield 20, 3) := by decide +kernel
theorem dX8_append_33 : decode cX8_append 33 = .ok (.return_, 1) := by decide +kernel
theorem dX8_readAll_0 : decode cX8_readAll 0 = .ok (.aload_n 0, 1) := by decide +kernel
theorem dX8_readAll_1 : decode cX8_readAll 1 = .ok (.iconst 0, 1) := by decide +kernel
theorem dX8_readAll_2 : decode cX8_readAll 2 = .ok (.putfield 27, 3) := by decide +kernel
theorem dX8_readAll_5 : decode cX8_readAll 5 = .ok (.aload_n 0, 1) := by decide +kernel
theorem dX8_readAll_6 : decode cX8_readAll 6 = .ok (.invokevirtual 40, 3) := by decide +kernel
theorem dX8_readAll_9 : decode cX8_readAll 9 = .ok (.iconst 0, 1) := by decide +kernel
theorem dX8_readAll_10 : decode cX8_readAll 10 = .ok (.istore_n 1, 1) := by decide +kernel
theorem dX8_readAll_11 : decode cX8_readAll 11 = .ok (.iload_n 1, 1) := by decide +kernel
theorem dX8_readAll_12 : decode cX8_readAll 12 = .ok (.sipush 400, 3) := by decide +kernel
theorem dX8_readAll_15 : decode cX8_readAll 15 = .ok (.if_icmp .ge 31, 3) := by decide +kernel
theorem dX8_readAll_18 : decode cX8_readAll 18 = .ok (.aload_n 0, 1) := by decide +kernel
theorem dX8_readAll_19 : decode cX8_readAll 19 = .ok (.getfield 30, 3) := by decide +kernel
theorem dX8_readAll_22 : decode cX8_readAll 22 = .ok (.ifCond .eq 24, 3) := by decide +kernel
theorem dX8_readAll_25 : decode cX8_readAll 25 = .ok (.aload_n 0, 1) := by decide +kernel
theorem dX8_readAll_26 : decode cX8_readAll 26 = .ok (.invokevirtual 43, 3) := by decide +kernel
theorem dX8_readAll_29 : decode cX8_readAll 29 = .ok (.istore_n 2, 1) := by decide +kernel
theorem dX8_readAll_30 : decode cX8_readAll 30 = .ok (.iload_n 2, 1) := by decide +kernel
theorem dX8_readAll_31 : decode cX8_readAll 31 = .ok (.ifCond .eq 5, 3) := by decide +kernel
theorem dX8_readAll_34 : decode cX8_readAll 34 = .ok (.iload_n 2, 1) := by decide +kernel
theorem dX8_readAll_35 : decode cX8_readAll 35 = .ok (.ireturn, 1) := by decide +kernel
theorem dX8_readAll_36 : decode cX8_readAll 36 = .ok (.aload_n 0, 1) := by decide +kernel
theorem dX8_readAll_37 : decode cX8_readAll 37 = .ok (.invokevirtual 40, 3) := by decide +kernel
theorem dX8_readAll_40 : decode cX8_readAll 40 = .ok (.iinc 1 1, 3) := by decide +kernel
theorem dX8_readAll_43 : decode cX8_readAll 43 = .ok (.goto (-32), 3) := by decide +kernel
theorem dX8_readAll_46 : decode cX8_readAll 46 = .ok (.iconst 0, 1) := by decide +kernel
theorem dX8_readAll_47 : decode cX8_readAll 47 = .ok (.ireturn, 1) := by decide +kernel
