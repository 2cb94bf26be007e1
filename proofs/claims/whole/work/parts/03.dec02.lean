theorem dX3_lossOverOrders_51 : decode cX3_lossOverOrders 51 = .ok (.imul, 1) := by decide +kernel
theorem dX3_lossOverOrders_52 : decode cX3_lossOverOrders 52 = .ok (.istore 6, 2) := by decide +kernel
theorem dX3_lossOverOrders_54 : decode cX3_lossOverOrders 54 = .ok (.iload_n 3, 1) := by decide +kernel
theorem dX3_lossOverOrders_55 : decode cX3_lossOverOrders 55 = .ok (.iload 6, 2) := by decide +kernel
theorem dX3_lossOverOrders_57 : decode cX3_lossOverOrders 57 = .ok (.aload_n 0, 1) := by decide +kernel
theorem dX3_lossOverOrders_58 : decode cX3_lossOverOrders 58 = .ok (.iload 4, 2) := by decide +kernel
theorem dX3_lossOverOrders_60 : decode cX3_lossOverOrders 60 = .ok (.invokevirtual 114, 3) := by decide +kernel
theorem dX3_lossOverOrders_63 : decode cX3_lossOverOrders 63 = .ok (.aload_n 0, 1) := by decide +kernel
theorem dX3_lossOverOrders_64 : decode cX3_lossOverOrders 64 = .ok (.iload 4, 2) := by decide +kernel
theorem dX3_lossOverOrders_66 : decode cX3_lossOverOrders 66 = .ok (.iconst 1, 1) := by decide +kernel
theorem dX3_lossOverOrders_67 : decode cX3_lossOverOrders 67 = .ok (.iload_n 1, 1) := by decide +kernel
theorem dX3_lossOverOrders_68 : decode cX3_lossOverOrders 68 = .ok (.ishl, 1) := by decide +kernel
theorem dX3_lossOverOrders_69 : decode cX3_lossOverOrders 69 = .ok (.ior, 1) := by decide +kernel
theorem dX3_lossOverOrders_70 : decode cX3_lossOverOrders 70 = .ok (.invokevirtual 114, 3) := by decide +kernel
theorem dX3_lossOverOrders_73 : decode cX3_lossOverOrders 73 = .ok (.isub, 1) := by decide +kernel
theorem dX3_lossOverOrders_74 : decode cX3_lossOverOrders 74 = .ok (.imul, 1) := by decide +kernel
theorem dX3_lossOverOrders_75 : decode cX3_lossOverOrders 75 = .ok (.iadd, 1) := by decide +kernel
theorem dX3_lossOverOrders_76 : decode cX3_lossOverOrders 76 = .ok (.istore_n 3, 1) := by decide +kernel
theorem dX3_lossOverOrders_77 : decode cX3_lossOverOrders 77 = .ok (.iinc 4 1, 3) := by decide +kernel
theorem dX3_lossOverOrders_80 : decode cX3_lossOverOrders 80 = .ok (.goto (-67), 3) := by decide +kernel
theorem dX3_lossOverOrders_83 : decode cX3_lossOverOrders 83 = .ok (.iload_n 3, 1) := by decide +kernel
theorem dX3_lossOverOrders_84 : decode cX3_lossOverOrders 84 = .ok (.ireturn, 1) := by decide +kernel
theorem dX3_mileOfSome_0 : decode cX3_mileOfSome 0 = .ok (.iload_n 1, 1) := by decide +kernel
theorem dX3_mileOfSome_1 : decode cX3_mileOfSome 1 = .ok (.ifCond .ne 11, 3) := by decide +kernel
theorem dX3_mileOfSome_4 : decode cX3_mileOfSome 4 = .ok (.aload_n 0, 1) := by decide +kernel
theorem dX3_mileOfSome_5 : decode cX3_mileOfSome 5 = .ok (.getfield 15, 3) := by decide +kernel
theorem dX3_mileOfSome_8 : decode cX3_mileOfSome 8 = .ok (.invokevirtual 117, 3) := by decide +kernel
theorem dX3_mileOfSome_11 : decode cX3_mileOfSome 11 = .ok (.ireturn, 1) := by decide +kernel
theorem dX3_mileOfSome_12 : decode cX3_mileOfSome 12 = .ok (.aload_n 0, 1) := by decide +kernel
theorem dX3_mileOfSome_13 : decode cX3_mileOfSome 13 = .ok (.getfield 19, 3) := by decide +kernel
theorem dX3_mileOfSome_16 : decode cX3_mileOfSome 16 = .ok (.aload_n 0, 1) := by decide +kernel
theorem dX3_mileOfSome_17 : decode cX3_mileOfSome 17 = .ok (.getfield 15, 3) := by decide +kernel
theorem dX3_mileOfSome_20 : decode cX3_mileOfSome 20 = .ok (.iload_n 1, 1) := by decide +kernel
theorem dX3_mileOfSome_21 : decode cX3_mileOfSome 21 = .ok (.invokevirtual 120, 3) := by decide +kernel
theorem dX3_mileOfSome_24 : decode cX3_mileOfSome 24 = .ok (.aload_n 0, 1) := by decide +kernel
theorem dX3_mileOfSome_25 : decode cX3_mileOfSome 25 = .ok (.getfield 19, 3) := by decide +kernel
theorem dX3_mileOfSome_28 : decode cX3_mileOfSome 28 = .ok (.iconst 5, 1) := by decide +kernel
theorem dX3_mileOfSome_29 : decode cX3_mileOfSome 29 = .ok (.invokevirtual 28, 3) := by decide +kernel
theorem dX3_mileOfSome_32 : decode cX3_mileOfSome 32 = .ok (.aload_n 0, 1) := by decide +kernel
theorem dX3_mileOfSome_33 : decode cX3_mileOfSome 33 = .ok (.getfield 19, 3) := by decide +kernel
theorem dX3_mileOfSome_36 : decode cX3_mileOfSome 36 = .ok (.invokevirtual 32, 3) := by decide +kernel
theorem dX3_mileOfSome_39 : decode cX3_mileOfSome 39 = .ok (.ireturn, 1) := by decide +kernel
theorem dX4_init_0 : decode cX4_init 0 = .ok (.aload_n 0, 1) := by decide +kernel
theorem dX4_init_1 : decode cX4_init 1 = .ok (.invokespecial 3, 3) := by decide +kernel
theorem dX4_init_4 : decode cX4_init 4 = .ok (.aload_n 0, 1) := by decide +kernel
theorem dX4_init_5 : decode cX4_init 5 = .ok (.bipush 8, 2) := by decide +kernel
theorem dX4_init_7 : decode cX4_init 7 = .ok (.newarray .int, 2) := by decide +kernel
theorem dX4_init_9 : decode cX4_init 9 = .ok (.putfield 9, 3) := by decide +kernel
theorem dX4_init_12 : decode cX4_init 12 = .ok (.aload_n 0, 1) := by decide +kernel
theorem dX4_init_13 : decode cX4_init 13 = .ok (.bipush 8, 2) := by decide +kernel
theorem dX4_init_15 : decode cX4_init 15 = .ok (.newarray .int, 2) := by decide +kernel
theorem dX4_init_17 : decode cX4_init 17 = .ok (.putfield 15, 3) := by decide +kernel
theorem dX4_init_20 : decode cX4_init 20 = .ok (.aload_n 0, 1) := by decide +kernel
theorem dX4_init_21 : decode cX4_init 21 = .ok (.bipush 8, 2) := by decide +kernel
theorem dX4_init_23 : decode cX4_init 23 = .ok (.newarray .int, 2) := by decide +kernel
theorem dX4_init_25 : decode cX4_init 25 = .ok (.putfield 18, 3) := by decide +kernel
theorem dX4_init_28 : decode cX4_init 28 = .ok (.aload_n 0, 1) := by decide +kernel
theorem dX4_init_29 : decode cX4_init 29 = .ok (.bipush 72, 2) := by decide +kernel
theorem dX4_init_31 : decode cX4_init 31 = .ok (.newarray .int, 2) := by decide +kernel
theorem dX4_init_33 : decode cX4_init 33 = .ok (.putfield 21, 3) := by decide +kernel
theorem dX4_init_36 : decode cX4_init 36 = .ok (.return_, 1) := by decide +kernel
theorem dX4_count_0 : decode cX4_count 0 = .ok (.aload_n 0, 1) := by decide +kernel
theorem dX4_count_1 : decode cX4_count 1 = .ok (.getfield 24, 3) := by decide +kernel
theorem dX4_count_4 : decode cX4_count 4 = .ok (.ireturn, 1) := by decide +kernel
theorem dX4_end_0 : decode cX4_end 0 = .ok (.aload_n 0, 1) := by decide +kernel
theorem dX4_end_1 : decode cX4_end 1 = .ok (.getfield 28, 3) := by decide +kernel
theorem dX4_end_4 : decode cX4_end 4 = .ok (.ireturn, 1) := by decide +kernel
theorem dX4_empty_0 : decode cX4_empty 0 = .ok (.aload_n 0, 1) := by decide +kernel
theorem dX4_empty_1 : decode cX4_empty 1 = .ok (.iconst 0, 1) := by decide +kernel
theorem dX4_empty_2 : decode cX4_empty 2 = .ok (.putfield 24, 3) := by decide +kernel
theorem dX4_empty_5 : decode cX4_empty 5 = .ok (.aload_n 0, 1) := by decide +kernel
theorem dX4_empty_6 : decode cX4_empty 6 = .ok (.iconst 0, 1) := by decide +kernel
theorem dX4_empty_7 : decode cX4_empty 7 = .ok (.putfield 28, 3) := by decide +kernel
theorem dX4_empty_10 : decode cX4_empty 10 = .ok (.return_, 1) := by decide +kernel
theorem dX4_add_0 : decode cX4_add 0 = .ok (.aload_n 0, 1) := by decide +kernel
theorem dX4_add_1 : decode cX4_add 1 = .ok (.getfield 24, 3) := by decide +kernel
theorem dX4_add_4 : decode cX4_add 4 = .ok (.ifCond .lt 12, 3) := by decide +kernel
theorem dX4_add_7 : decode cX4_add 7 = .ok (.aload_n 0, 1) := by decide +kernel
theorem dX4_add_8 : decode cX4_add 8 = .ok (.getfield 24, 3) := by decide +kernel
theorem dX4_add_11 : decode cX4_add 11 = .ok (.bipush 8, 2) := by decide +kernel
theorem dX4_add_13 : decode cX4_add 13 = .ok (.if_icmp .lt 4, 3) := by decide +kernel
theorem dX4_add_16 : decode cX4_add 16 = .ok (.return_, 1) := by decide +kernel
theorem dX4_add_17 : decode cX4_add 17 = .ok (.aload_n 0, 1) := by decide +kernel
theorem dX4_add_18 : decode cX4_add 18 = .ok (.getfield 9, 3) := by decide +kernel
theorem dX4_add_21 : decode cX4_add 21 = .ok (.aload_n 0, 1) := by decide +kernel
theorem dX4_add_22 : decode cX4_add 22 = .ok (.getfield 24, 3) := by decide +kernel
theorem dX4_add_25 : decode cX4_add 25 = .ok (.iload_n 1, 1) := by decide +kernel
theorem dX4_add_26 : decode cX4_add 26 = .ok (.iastore, 1) := by decide +kernel
theorem dX4_add_27 : decode cX4_add 27 = .ok (.aload_n 0, 1) := by decide +kernel
theorem dX4_add_28 : decode cX4_add 28 = .ok (.getfield 15, 3) := by decide +kernel
theorem dX4_add_31 : decode cX4_add 31 = .ok (.aload_n 0, 1) := by decide +kernel
theorem dX4_add_32 : decode cX4_add 32 = .ok (.getfield 24, 3) := by decide +kernel
theorem dX4_add_35 : decode cX4_add 35 = .ok (.iload_n 2, 1) := by decide +kernel
theorem dX4_add_36 : decode cX4_add 36 = .ok (.iastore, 1) := by decide +kernel
theorem dX4_add_37 : decode cX4_add 37 = .ok (.aload_n 0, 1) := by decide +kernel
theorem dX4_add_38 : decode cX4_add 38 = .ok (.getfield 18, 3) := by decide +kernel
theorem dX4_add_41 : decode cX4_add 41 = .ok (.aload_n 0, 1) := by decide +kernel
theorem dX4_add_42 : decode cX4_add 42 = .ok (.getfield 24, 3) := by decide +kernel
theorem dX4_add_45 : decode cX4_add 45 = .ok (.aload_n 0, 1) := by decide +kernel
theorem dX4_add_46 : decode cX4_add 46 = .ok (.getfield 28, 3) := by decide +kernel
theorem dX4_add_49 : decode cX4_add 49 = .ok (.iastore, 1) := by decide +kernel
theorem dX4_add_50 : decode cX4_add 50 = .ok (.iconst 0, 1) := by decide +kernel
theorem dX4_add_51 : decode cX4_add 51 = .ok (.istore_n 3, 1) := by decide +kernel
theorem dX4_add_52 : decode cX4_add 52 = .ok (.iload_n 3, 1) := by decide +kernel
theorem dX4_add_53 : decode cX4_add 53 = .ok (.iload_n 1, 1) := by decide +kernel
theorem dX4_add_54 : decode cX4_add 54 = .ok (.if_icmp .ge 51, 3) := by decide +kernel
theorem dX4_add_57 : decode cX4_add 57 = .ok (.aload_n 0, 1) := by decide +kernel
theorem dX4_add_58 : decode cX4_add 58 = .ok (.getfield 28, 3) := by decide +kernel
theorem dX4_add_61 : decode cX4_add 61 = .ok (.ifCond .lt 44, 3) := by decide +kernel
theorem dX4_add_64 : decode cX4_add 64 = .ok (.aload_n 0, 1) := by decide +kernel
theorem dX4_add_65 : decode cX4_add 65 = .ok (.getfield 28, 3) := by decide +kernel
theorem dX4_add_68 : decode cX4_add 68 = .ok (.aload_n 0, 1) := by decide +kernel
theorem dX4_add_69 : decode cX4_add 69 = .ok (.getfield 21, 3) := by decide +kernel
theorem dX4_add_72 : decode cX4_add 72 = .ok (.arraylength, 1) := by decide +kernel
theorem dX4_add_73 : decode cX4_add 73 = .ok (.if_icmp .ge 32, 3) := by decide +kernel
theorem dX4_add_76 : decode cX4_add 76 = .ok (.aload_n 0, 1) := by decide +kernel
theorem dX4_add_77 : decode cX4_add 77 = .ok (.getfield 21, 3) := by decide +kernel
theorem dX4_add_80 : decode cX4_add 80 = .ok (.aload_n 0, 1) := by decide +kernel
theorem dX4_add_81 : decode cX4_add 81 = .ok (.getfield 28, 3) := by decide +kernel
theorem dX4_add_84 : decode cX4_add 84 = .ok (.aload_n 0, 1) := by decide +kernel
theorem dX4_add_85 : decode cX4_add 85 = .ok (.getfield 24, 3) := by decide +kernel
theorem dX4_add_88 : decode cX4_add 88 = .ok (.iastore, 1) := by decide +kernel
theorem dX4_add_89 : decode cX4_add 89 = .ok (.aload_n 0, 1) := by decide +kernel
theorem dX4_add_90 : decode cX4_add 90 = .ok (.dup, 1) := by decide +kernel
theorem dX4_add_91 : decode cX4_add 91 = .ok (.getfield 28, 3) := by decide +kernel
theorem dX4_add_94 : decode cX4_add 94 = .ok (.iconst 1, 1) := by decide +kernel
theorem dX4_add_95 : decode cX4_add 95 = .ok (.iadd, 1) := by decide +kernel
theorem dX4_add_96 : decode cX4_add 96 = .ok (.putfield 28, 3) := by decide +kernel
theorem dX4_add_99 : decode cX4_add 99 = .ok (.iinc 3 1, 3) := by decide +kernel
theorem dX4_add_102 : decode cX4_add 102 = .ok (.goto (-50), 3) := by decide +kernel
theorem dX4_add_105 : decode cX4_add 105 = .ok (.aload_n 0, 1) := by decide +kernel
theorem dX4_add_106 : decode cX4_add 106 = .ok (.dup, 1) := by decide +kernel
theorem dX4_add_107 : decode cX4_add 107 = .ok (.getfield 24, 3) := by decide +kernel
theorem dX4_add_110 : decode cX4_add 110 = .ok (.iconst 1, 1) := by decide +kernel
theorem dX4_add_111 : decode cX4_add 111 = .ok (.iadd, 1) := by decide +kernel
theorem dX4_add_112 : decode cX4_add 112 = .ok (.putfield 24, 3) := by decide +kernel
theorem dX4_add_115 : decode cX4_add 115 = .ok (.return_, 1) := by decide +kernel
theorem dX4_has_0 : decode cX4_has 0 = .ok (.iload_n 1, 1) := by decide +kernel
theorem dX4_has_1 : decode cX4_has 1 = .ok (.ifCond .lt 21, 3) := by decide +kernel
theorem dX4_has_4 : decode cX4_has 4 = .ok (.iload_n 1, 1) := by decide +kernel
theorem dX4_has_5 : decode cX4_has 5 = .ok (.aload_n 0, 1) := by decide +kernel
theorem dX4_has_6 : decode cX4_has 6 = .ok (.getfield 24, 3) := by decide +kernel
theorem dX4_has_9 : decode cX4_has 9 = .ok (.if_icmp .ge 13, 3) := by decide +kernel
theorem dX4_has_12 : decode cX4_has 12 = .ok (.iload_n 1, 1) := by decide +kernel
theorem dX4_has_13 : decode cX4_has 13 = .ok (.bipush 8, 2) := by decide +kernel
theorem dX4_has_15 : decode cX4_has 15 = .ok (.if_icmp .ge 7, 3) := by decide +kernel
theorem dX4_has_18 : decode cX4_has 18 = .ok (.iconst 1, 1) := by decide +kernel
theorem dX4_has_19 : decode cX4_has 19 = .ok (.goto 4, 3) := by decide +kernel
theorem dX4_has_22 : decode cX4_has 22 = .ok (.iconst 0, 1) := by decide +kernel
theorem dX4_has_23 : decode cX4_has 23 = .ok (.ireturn, 1) := by decide +kernel
theorem dX4_milesOf_0 : decode cX4_milesOf 0 = .ok (.aload_n 0, 1) := by decide +kernel
theorem dX4_milesOf_1 : decode cX4_milesOf 1 = .ok (.iload_n 1, 1) := by decide +kernel
theorem dX4_milesOf_2 : decode cX4_milesOf 2 = .ok (.invokevirtual 31, 3) := by decide +kernel
theorem dX4_milesOf_5 : decode cX4_milesOf 5 = .ok (.ifCond .eq 12, 3) := by decide +kernel
theorem dX4_milesOf_8 : decode cX4_milesOf 8 = .ok (.aload_n 0, 1) := by decide +kernel
theorem dX4_milesOf_9 : decode cX4_milesOf 9 = .ok (.getfield 9, 3) := by decide +kernel
theorem dX4_milesOf_12 : decode cX4_milesOf 12 = .ok (.iload_n 1, 1) := by decide +kernel
theorem dX4_milesOf_13 : decode cX4_milesOf 13 = .ok (.iaload, 1) := by decide +kernel
theorem dX4_milesOf_14 : decode cX4_milesOf 14 = .ok (.goto 4, 3) := by decide +kernel
theorem dX4_milesOf_17 : decode cX4_milesOf 17 = .ok (.iconst 0, 1) := by decide +kernel
theorem dX4_milesOf_18 : decode cX4_milesOf 18 = .ok (.ireturn, 1) := by decide +kernel
theorem dX4_groundOf_0 : decode cX4_groundOf 0 = .ok (.iload_n 1, 1) := by decide +kernel
theorem dX4_groundOf_1 : decode cX4_groundOf 1 = .ok (.ifCond .lt 29, 3) := by decide +kernel
theorem dX4_groundOf_4 : decode cX4_groundOf 4 = .ok (.iload_n 1, 1) := by decide +kernel
theorem dX4_groundOf_5 : decode cX4_groundOf 5 = .ok (.aload_n 0, 1) := by decide +kernel
theorem dX4_groundOf_6 : decode cX4_groundOf 6 = .ok (.getfield 24, 3) := by decide +kernel
theorem dX4_groundOf_9 : decode cX4_groundOf 9 = .ok (.if_icmp .ge 21, 3) := by decide +kernel
theorem dX4_groundOf_12 : decode cX4_groundOf 12 = .ok (.iload_n 1, 1) := by decide +kernel
theorem dX4_groundOf_13 : decode cX4_groundOf 13 = .ok (.aload_n 0, 1) := by decide +kernel
theorem dX4_groundOf_14 : decode cX4_groundOf 14 = .ok (.getfield 15, 3) := by decide +kernel
theorem dX4_groundOf_17 : decode cX4_groundOf 17 = .ok (.arraylength, 1) := by decide +kernel
theorem dX4_groundOf_18 : decode cX4_groundOf 18 = .ok (.if_icmp .ge 12, 3) := by decide +kernel
theorem dX4_groundOf_21 : decode cX4_groundOf 21 = .ok (.aload_n 0, 1) := by decide +kernel
theorem dX4_groundOf_22 : decode cX4_groundOf 22 = .ok (.getfield 15, 3) := by decide +kernel
theorem dX4_groundOf_25 : decode cX4_groundOf 25 = .ok (.iload_n 1, 1) := by decide +kernel
theorem dX4_groundOf_26 : decode cX4_groundOf 26 = .ok (.iaload, 1) := by decide +kernel
theorem dX4_groundOf_27 : decode cX4_groundOf 27 = .ok (.goto 5, 3) := by decide +kernel
theorem dX4_groundOf_30 : decode cX4_groundOf 30 = .ok (.bipush (-9), 2) := by decide +kernel
theorem dX4_groundOf_32 : decode cX4_groundOf 32 = .ok (.ireturn, 1) := by decide +kernel
theorem dX4_beginOf_0 : decode cX4_beginOf 0 = .ok (.aload_n 0, 1) := by decide +kernel
theorem dX4_beginOf_1 : decode cX4_beginOf 1 = .ok (.iload_n 1, 1) := by decide +kernel
theorem dX4_beginOf_2 : decode cX4_beginOf 2 = .ok (.invokevirtual 31, 3) := by decide +kernel
theorem dX4_beginOf_5 : decode cX4_beginOf 5 = .ok (.ifCond .eq 12, 3) := by decide +kernel
theorem dX4_beginOf_8 : decode cX4_beginOf 8 = .ok (.aload_n 0, 1) := by decide +kernel
theorem dX4_beginOf_9 : decode cX4_beginOf 9 = .ok (.getfield 18, 3) := by decide +kernel
theorem dX4_beginOf_12 : decode cX4_beginOf 12 = .ok (.iload_n 1, 1) := by decide +kernel
theorem dX4_beginOf_13 : decode cX4_beginOf 13 = .ok (.iaload, 1) := by decide +kernel
theorem dX4_beginOf_14 : decode cX4_beginOf 14 = .ok (.goto 4, 3) := by decide +kernel
theorem dX4_beginOf_17 : decode cX4_beginOf 17 = .ok (.iconst 0, 1) := by decide +kernel
theorem dX4_beginOf_18 : decode cX4_beginOf 18 = .ok (.ireturn, 1) := by decide +kernel
theorem dX4_stretchAt_0 : decode cX4_stretchAt 0 = .ok (.iload_n 1, 1) := by decide +kernel
theorem dX4_stretchAt_1 : decode cX4_stretchAt 1 = .ok (.ifCond .lt 29, 3) := by decide +kernel
theorem dX4_stretchAt_4 : decode cX4_stretchAt 4 = .ok (.iload_n 1, 1) := by decide +kernel
theorem dX4_stretchAt_5 : decode cX4_stretchAt 5 = .ok (.aload_n 0, 1) := by decide +kernel
theorem dX4_stretchAt_6 : decode cX4_stretchAt 6 = .ok (.getfield 28, 3) := by decide +kernel
theorem dX4_stretchAt_9 : decode cX4_stretchAt 9 = .ok (.if_icmp .ge 21, 3) := by decide +kernel
theorem dX4_stretchAt_12 : decode cX4_stretchAt 12 = .ok (.iload_n 1, 1) := by decide +kernel
theorem dX4_stretchAt_13 : decode cX4_stretchAt 13 = .ok (.aload_n 0, 1) := by decide +kernel
theorem dX4_stretchAt_14 : decode cX4_stretchAt 14 = .ok (.getfield 21, 3) := by decide +kernel
theorem dX4_stretchAt_17 : decode cX4_stretchAt 17 = .ok (.arraylength, 1) := by decide +kernel
theorem dX4_stretchAt_18 : decode cX4_stretchAt 18 = .ok (.if_icmp .ge 12, 3) := by decide +kernel
theorem dX4_stretchAt_21 : decode cX4_stretchAt 21 = .ok (.aload_n 0, 1) := by decide +kernel
theorem dX4_stretchAt_22 : decode cX4_stretchAt 22 = .ok (.getfield 21, 3) := by decide +kernel
theorem dX4_stretchAt_25 : decode cX4_stretchAt 25 = .ok (.iload_n 1, 1) := by decide +kernel
theorem dX4_stretchAt_26 : decode cX4_stretchAt 26 = .ok (.iaload, 1) := by decide +kernel
theorem dX4_stretchAt_27 : decode cX4_stretchAt 27 = .ok (.goto 5, 3) := by decide +kernel
theorem dX4_stretchAt_30 : decode cX4_stretchAt 30 = .ok (.bipush (-9), 2) := by decide +kernel
theorem dX4_stretchAt_32 : decode cX4_stretchAt 32 = .ok (.ireturn, 1) := by decide +kernel
theorem dX5_init_0 : decode cX5_init 0 = .ok (.aload_n 0, 1) := by decide +kernel
theorem dX5_init_1 : decode cX5_init 1 = .ok (.invokespecial 3, 3) := by decide +kernel
theorem dX5_init_4 : decode cX5_init 4 = .ok (.aload_n 0, 1) := by decide +kernel
theorem dX5_init_5 : decode cX5_init 5 = .ok (.bipush 48, 2) := by decide +kernel
theorem dX5_init_7 : decode cX5_init 7 = .ok (.newarray .int, 2) := by decide +kernel
theorem dX5_init_9 : decode cX5_init 9 = .ok (.putfield 9, 3) := by decide +kernel
theorem dX5_init_12 : decode cX5_init 12 = .ok (.return_, 1) := by decide +kernel
theorem dX5_size_0 : decode cX5_size 0 = .ok (.aload_n 0, 1) := by decide +kernel
theorem dX5_size_1 : decode cX5_size 1 = .ok (.getfield 15, 3) := by decide +kernel
theorem dX5_size_4 : decode cX5_size 4 = .ok (.ireturn, 1) := by decide +kernel
theorem dX5_empty_0 : decode cX5_empty 0 = .ok (.aload_n 0, 1) := by decide +kernel
theorem dX5_empty_1 : decode cX5_empty 1 = .ok (.iconst 0, 1) := by decide +kernel
theorem dX5_empty_2 : decode cX5_empty 2 = .ok (.putfield 15, 3) := by decide +kernel
theorem dX5_empty_5 : decode cX5_empty 5 = .ok (.return_, 1) := by decide +kernel
theorem dX5_append_0 : decode cX5_append 0 = .ok (.aload_n 0, 1) := by decide +kernel
theorem dX5_append_1 : decode cX5_append 1 = .ok (.getfield 15, 3) := by decide +kernel
theorem dX5_append_4 : decode cX5_append 4 = .ok (.ifCond .lt 35, 3) := by decide +kernel
theorem dX5_append_7 : decode cX5_append 7 = .ok (.aload_n 0, 1) := by decide +kernel
theorem dX5_append_8 : decode cX5_append 8 = .ok (.getfield 15, 3) := by decide +kernel
theorem dX5_append_11 : decode cX5_append 11 = .ok (.aload_n 0, 1) := by decide +kernel
theorem dX5_append_12 : decode cX5_append 12 = .ok (.getfield 9, 3) := by decide +kernel
theorem dX5_append_15 : decode cX5_append 15 = .ok (.arraylength, 1) := by decide +kernel
theorem dX5_append_16 : decode cX5_append 16 = .ok (.if_icmp .ge 23, 3) := by decide +kernel
theorem dX5_append_19 : decode cX5_append 19 = .ok (.aload_n 0, 1) := by decide +kernel
theorem dX5_append_20 : decode cX5_append 20 = .ok (.getfield 9, 3) := by decide +kernel
theorem dX5_append_23 : decode cX5_append 23 = .ok (.aload_n 0, 1) := by decide +kernel
theorem dX5_append_24 : decode cX5_append 24 = .ok (.getfield 15, 3) := by decide +kernel
theorem dX5_append_27 : decode cX5_append 27 = .ok (.iload_n 1, 1) := by decide +kernel
theorem dX5_append_28 : decode cX5_append 28 = .ok (.iastore, 1) := by decide +kernel
theorem dX5_append_29 : decode cX5_append 29 = .ok (.aload_n 0, 1) := by decide +kernel
theorem dX5_append_30 : decode cX5_append 30 = .ok (.dup, 1) := by decide +kernel
theorem dX5_append_31 : decode cX5_append 31 = .ok (.getfield 15, 3) := by decide +kernel
theorem dX5_append_34 : decode cX5_append 34 = .ok (.iconst 1, 1) := by decide +kernel
theorem dX5_append_35 : decode cX5_append 35 = .ok (.iadd, 1) := by decide +kernel
theorem dX5_append_36 : decode cX5_append 36 = .ok (.putfield 15, 3) := by decide +kernel
theorem dX5_append_39 : decode cX5_append 39 = .ok (.return_, 1) := by decide +kernel
theorem dX5_letterAt_0 : decode cX5_letterAt 0 = .ok (.iload_n 1, 1) := by decide +kernel
theorem dX5_letterAt_1 : decode cX5_letterAt 1 = .ok (.ifCond .lt 29, 3) := by decide +kernel
theorem dX5_letterAt_4 : decode cX5_letterAt 4 = .ok (.iload_n 1, 1) := by decide +kernel
theorem dX5_letterAt_5 : decode cX5_letterAt 5 = .ok (.aload_n 0, 1) := by decide +kernel
theorem dX5_letterAt_6 : decode cX5_letterAt 6 = .ok (.getfield 15, 3) := by decide +kernel
theorem dX5_letterAt_9 : decode cX5_letterAt 9 = .ok (.if_icmp .ge 21, 3) := by decide +kernel
theorem dX5_letterAt_12 : decode cX5_letterAt 12 = .ok (.iload_n 1, 1) := by decide +kernel
theorem dX5_letterAt_13 : decode cX5_letterAt 13 = .ok (.aload_n 0, 1) := by decide +kernel
theorem dX5_letterAt_14 : decode cX5_letterAt 14 = .ok (.getfield 9, 3) := by decide +kernel
theorem dX5_letterAt_17 : decode cX5_letterAt 17 = .ok (.arraylength, 1) := by decide +kernel
theorem dX5_letterAt_18 : decode cX5_letterAt 18 = .ok (.if_icmp .ge 12, 3) := by decide +kernel
theorem dX5_letterAt_21 : decode cX5_letterAt 21 = .ok (.aload_n 0, 1) := by decide +kernel
theorem dX5_letterAt_22 : decode cX5_letterAt 22 = .ok (.getfield 9, 3) := by decide +kernel
theorem dX5_letterAt_25 : decode cX5_letterAt 25 = .ok (.iload_n 1, 1) := by decide +kernel
theorem dX5_letterAt_26 : decode cX5_letterAt 26 = .ok (.iaload, 1) := by decide +kernel
theorem dX5_letterAt_27 : decode cX5_letterAt 27 = .ok (.goto 4, 3) := by decide +kernel
theorem dX5_letterAt_30 : decode cX5_letterAt 30 = .ok (.iconst (-1), 1) := by decide +kernel
theorem dX5_letterAt_31 : decode cX5_letterAt 31 = .ok (.ireturn, 1) := by decide +kernel
theorem dX5_figureAt_0 : decode cX5_figureAt 0 = .ok (.aload_n 0, 1) := by decide +kernel
theorem dX5_figureAt_1 : decode cX5_figureAt 1 = .ok (.iload_n 1, 1) := by decide +kernel
theorem dX5_figureAt_2 : decode cX5_figureAt 2 = .ok (.invokevirtual 19, 3) := by decide +kernel
theorem dX5_figureAt_5 : decode cX5_figureAt 5 = .ok (.bipush 48, 2) := by decide +kernel
theorem dX5_figureAt_7 : decode cX5_figureAt 7 = .ok (.isub, 1) := by decide +kernel
theorem dX5_figureAt_8 : decode cX5_figureAt 8 = .ok (.ireturn, 1) := by decide +kernel
theorem dX5_faultPlace_0 : decode cX5_faultPlace 0 = .ok (.aload_n 0, 1) := by decide +kernel
theorem dX5_faultPlace_1 : decode cX5_faultPlace 1 = .ok (.iconst 0, 1) := by decide +kernel
theorem dX5_faultPlace_2 : decode cX5_faultPlace 2 = .ok (.invokevirtual 19, 3) := by decide +kernel
theorem dX5_faultPlace_5 : decode cX5_faultPlace 5 = .ok (.bipush 65, 2) := by decide +kernel
theorem dX5_faultPlace_7 : decode cX5_faultPlace 7 = .ok (.if_icmp .eq 5, 3) := by decide +kernel
theorem dX5_faultPlace_10 : decode cX5_faultPlace 10 = .ok (.iconst 0, 1) := by decide +kernel
theorem dX5_faultPlace_11 : decode cX5_faultPlace 11 = .ok (.ireturn, 1) := by decide +kernel
theorem dX5_faultPlace_12 : decode cX5_faultPlace 12 = .ok (.iconst 0, 1) := by decide +kernel
theorem dX5_faultPlace_13 : decode cX5_faultPlace 13 = .ok (.istore_n 1, 1) := by decide +kernel
theorem dX5_faultPlace_14 : decode cX5_faultPlace 14 = .ok (.iconst 0, 1) := by decide +kernel
theorem dX5_faultPlace_15 : decode cX5_faultPlace 15 = .ok (.istore_n 2, 1) := by decide +kernel
theorem dX5_faultPlace_16 : decode cX5_faultPlace 16 = .ok (.iconst 1, 1) := by decide +kernel
theorem dX5_faultPlace_17 : decode cX5_faultPlace 17 = .ok (.istore_n 3, 1) := by decide +kernel
theorem dX5_faultPlace_18 : decode cX5_faultPlace 18 = .ok (.iconst 0, 1) := by decide +kernel
theorem dX5_faultPlace_19 : decode cX5_faultPlace 19 = .ok (.istore 4, 2) := by decide +kernel
theorem dX5_faultPlace_21 : decode cX5_faultPlace 21 = .ok (.iload 4, 2) := by decide +kernel
theorem dX5_faultPlace_23 : decode cX5_faultPlace 23 = .ok (.bipush 48, 2) := by decide +kernel
theorem dX5_faultPlace_25 : decode cX5_faultPlace 25 = .ok (.if_icmp .ge 115, 3) := by decide +kernel
theorem dX5_faultPlace_28 : decode cX5_faultPlace 28 = .ok (.iload_n 3, 1) := by decide +kernel
theorem dX5_faultPlace_29 : decode cX5_faultPlace 29 = .ok (.aload_n 0, 1) := by decide +kernel
theorem dX5_faultPlace_30 : decode cX5_faultPlace 30 = .ok (.getfield 15, 3) := by decide +kernel
theorem dX5_faultPlace_33 : decode cX5_faultPlace 33 = .ok (.if_icmp .ge 107, 3) := by decide +kernel
theorem dX5_faultPlace_36 : decode cX5_faultPlace 36 = .ok (.aload_n 0, 1) := by decide +kernel
theorem dX5_faultPlace_37 : decode cX5_faultPlace 37 = .ok (.iload_n 3, 1) := by decide +kernel
theorem dX5_faultPlace_38 : decode cX5_faultPlace 38 = .ok (.invokevirtual 19, 3) := by decide +kernel
theorem dX5_faultPlace_41 : decode cX5_faultPlace 41 = .ok (.bipush 83, 2) := by decide +kernel
theorem dX5_faultPlace_43 : decode cX5_faultPlace 43 = .ok (.if_icmp .ne 35, 3) := by decide +kernel
theorem dX5_faultPlace_46 : decode cX5_faultPlace 46 = .ok (.iload_n 1, 1) := by decide +kernel
theorem dX5_faultPlace_47 : decode cX5_faultPlace 47 = .ok (.bipush 8, 2) := by decide +kernel
theorem dX5_faultPlace_49 : decode cX5_faultPlace 49 = .ok (.if_icmp .ge 29, 3) := by decide +kernel
theorem dX5_faultPlace_52 : decode cX5_faultPlace 52 = .ok (.iinc 1 1, 3) := by decide +kernel
theorem dX5_faultPlace_55 : decode cX5_faultPlace 55 = .ok (.iload_n 3, 1) := by decide +kernel
theorem dX5_faultPlace_56 : decode cX5_faultPlace 56 = .ok (.iconst 3, 1) := by decide +kernel
theorem dX5_faultPlace_57 : decode cX5_faultPlace 57 = .ok (.iadd, 1) := by decide +kernel
theorem dX5_faultPlace_58 : decode cX5_faultPlace 58 = .ok (.istore 6, 2) := by decide +kernel
theorem dX5_faultPlace_60 : decode cX5_faultPlace 60 = .ok (.aload_n 0, 1) := by decide +kernel
theorem dX5_faultPlace_61 : decode cX5_faultPlace 61 = .ok (.iload_n 3, 1) := by decide +kernel
theorem dX5_faultPlace_62 : decode cX5_faultPlace 62 = .ok (.iconst 1, 1) := by decide +kernel
theorem dX5_faultPlace_63 : decode cX5_faultPlace 63 = .ok (.iadd, 1) := by decide +kernel
theorem dX5_faultPlace_64 : decode cX5_faultPlace 64 = .ok (.getstatic 23, 3) := by decide +kernel
theorem dX5_faultPlace_67 : decode cX5_faultPlace 67 = .ok (.getstatic 26, 3) := by decide +kernel
theorem dX5_faultPlace_70 : decode cX5_faultPlace 70 = .ok (.invokevirtual 29, 3) := by decide +kernel
theorem dX5_faultPlace_73 : decode cX5_faultPlace 73 = .ok (.istore 5, 2) := by decide +kernel
theorem dX5_faultPlace_75 : decode cX5_faultPlace 75 = .ok (.goto 46, 3) := by decide +kernel
theorem dX5_faultPlace_78 : decode cX5_faultPlace 78 = .ok (.aload_n 0, 1) := by decide +kernel
theorem dX5_faultPlace_79 : decode cX5_faultPlace 79 = .ok (.iload_n 3, 1) := by decide +kernel
theorem dX5_faultPlace_80 : decode cX5_faultPlace 80 = .ok (.invokevirtual 19, 3) := by decide +kernel
theorem dX5_faultPlace_83 : decode cX5_faultPlace 83 = .ok (.bipush 77, 2) := by decide +kernel
theorem dX5_faultPlace_85 : decode cX5_faultPlace 85 = .ok (.if_icmp .ne 34, 3) := by decide +kernel
theorem dX5_faultPlace_88 : decode cX5_faultPlace 88 = .ok (.iload_n 2, 1) := by decide +kernel
theorem dX5_faultPlace_89 : decode cX5_faultPlace 89 = .ok (.iconst 5, 1) := by decide +kernel
theorem dX5_faultPlace_90 : decode cX5_faultPlace 90 = .ok (.if_icmp .ge 29, 3) := by decide +kernel
theorem dX5_faultPlace_93 : decode cX5_faultPlace 93 = .ok (.iinc 2 1, 3) := by decide +kernel
theorem dX5_faultPlace_96 : decode cX5_faultPlace 96 = .ok (.iload_n 3, 1) := by decide +kernel
theorem dX5_faultPlace_97 : decode cX5_faultPlace 97 = .ok (.iconst 4, 1) := by decide +kernel
theorem dX5_faultPlace_98 : decode cX5_faultPlace 98 = .ok (.iadd, 1) := by decide +kernel
theorem dX5_faultPlace_99 : decode cX5_faultPlace 99 = .ok (.istore 6, 2) := by decide +kernel
theorem dX5_faultPlace_101 : decode cX5_faultPlace 101 = .ok (.aload_n 0, 1) := by decide +kernel
theorem dX5_faultPlace_102 : decode cX5_faultPlace 102 = .ok (.iload_n 3, 1) := by decide +kernel
theorem dX5_faultPlace_103 : decode cX5_faultPlace 103 = .ok (.iconst 1, 1) := by decide +kernel
theorem dX5_faultPlace_104 : decode cX5_faultPlace 104 = .ok (.iadd, 1) := by decide +kernel
theorem dX5_faultPlace_105 : decode cX5_faultPlace 105 = .ok (.getstatic 33, 3) := by decide +kernel
theorem dX5_faultPlace_108 : decode cX5_faultPlace 108 = .ok (.getstatic 36, 3) := by decide +kernel
theorem dX5_faultPlace_111 : decode cX5_faultPlace 111 = .ok (.invokevirtual 29, 3) := by decide +kernel
theorem dX5_faultPlace_114 : decode cX5_faultPlace 114 = .ok (.istore 5, 2) := by decide +kernel
theorem dX5_faultPlace_116 : decode cX5_faultPlace 116 = .ok (.goto 5, 3) := by decide +kernel
theorem dX5_faultPlace_119 : decode cX5_faultPlace 119 = .ok (.iload_n 3, 1) := by decide +kernel
theorem dX5_faultPlace_120 : decode cX5_faultPlace 120 = .ok (.ireturn, 1) := by decide +kernel
theorem dX5_faultPlace_121 : decode cX5_faultPlace 121 = .ok (.iload 5, 2) := by decide +kernel
theorem dX5_faultPlace_123 : decode cX5_faultPlace 123 = .ok (.bipush (-9), 2) := by decide +kernel
theorem dX5_faultPlace_125 : decode cX5_faultPlace 125 = .ok (.if_icmp .eq 6, 3) := by decide +kernel
theorem dX5_faultPlace_128 : decode cX5_faultPlace 128 = .ok (.iload 5, 2) := by decide +kernel
theorem dX5_faultPlace_130 : decode cX5_faultPlace 130 = .ok (.ireturn, 1) := by decide +kernel
theorem dX5_faultPlace_131 : decode cX5_faultPlace 131 = .ok (.iload 6, 2) := by decide +kernel
theorem dX5_faultPlace_133 : decode cX5_faultPlace 133 = .ok (.istore_n 3, 1) := by decide +kernel
theorem dX5_faultPlace_134 : decode cX5_faultPlace 134 = .ok (.iinc 4 1, 3) := by decide +kernel
theorem dX5_faultPlace_137 : decode cX5_faultPlace 137 = .ok (.goto (-116), 3) := by decide +kernel
theorem dX5_faultPlace_140 : decode cX5_faultPlace 140 = .ok (.bipush (-9), 2) := by decide +kernel
theorem dX5_faultPlace_142 : decode cX5_faultPlace 142 = .ok (.ireturn, 1) := by decide +kernel
theorem dX5_misfitFrom_0 : decode cX5_misfitFrom 0 = .ok (.iconst 0, 1) := by decide +kernel
theorem dX5_misfitFrom_1 : decode cX5_misfitFrom 1 = .ok (.istore 4, 2) := by decide +kernel
theorem dX5_misfitFrom_3 : decode cX5_misfitFrom 3 = .ok (.iload 4, 2) := by decide +kernel
theorem dX5_misfitFrom_5 : decode cX5_misfitFrom 5 = .ok (.aload_n 2, 1) := by decide +kernel
theorem dX5_misfitFrom_6 : decode cX5_misfitFrom 6 = .ok (.arraylength, 1) := by decide +kernel
theorem dX5_misfitFrom_7 : decode cX5_misfitFrom 7 = .ok (.if_icmp .ge 49, 3) := by decide +kernel
theorem dX5_misfitFrom_10 : decode cX5_misfitFrom 10 = .ok (.iload 4, 2) := by decide +kernel
theorem dX5_misfitFrom_12 : decode cX5_misfitFrom 12 = .ok (.aload_n 3, 1) := by decide +kernel
theorem dX5_misfitFrom_13 : decode cX5_misfitFrom 13 = .ok (.arraylength, 1) := by decide +kernel
theorem dX5_misfitFrom_14 : decode cX5_misfitFrom 14 = .ok (.if_icmp .ge 42, 3) := by decide +kernel
theorem dX5_misfitFrom_17 : decode cX5_misfitFrom 17 = .ok (.aload_n 0, 1) := by decide +kernel
theorem dX5_misfitFrom_18 : decode cX5_misfitFrom 18 = .ok (.iload_n 1, 1) := by decide +kernel
theorem dX5_misfitFrom_19 : decode cX5_misfitFrom 19 = .ok (.iload 4, 2) := by decide +kernel
theorem dX5_misfitFrom_21 : decode cX5_misfitFrom 21 = .ok (.iadd, 1) := by decide +kernel
theorem dX5_misfitFrom_22 : decode cX5_misfitFrom 22 = .ok (.invokevirtual 39, 3) := by decide +kernel
theorem dX5_misfitFrom_25 : decode cX5_misfitFrom 25 = .ok (.istore 5, 2) := by decide +kernel
theorem dX5_misfitFrom_27 : decode cX5_misfitFrom 27 = .ok (.iload 5, 2) := by decide +kernel
theorem dX5_misfitFrom_29 : decode cX5_misfitFrom 29 = .ok (.aload_n 2, 1) := by decide +kernel
theorem dX5_misfitFrom_30 : decode cX5_misfitFrom 30 = .ok (.iload 4, 2) := by decide +kernel
theorem dX5_misfitFrom_32 : decode cX5_misfitFrom 32 = .ok (.iaload, 1) := by decide +kernel
theorem dX5_misfitFrom_33 : decode cX5_misfitFrom 33 = .ok (.if_icmp .lt 12, 3) := by decide +kernel
theorem dX5_misfitFrom_36 : decode cX5_misfitFrom 36 = .ok (.iload 5, 2) := by decide +kernel
theorem dX5_misfitFrom_38 : decode cX5_misfitFrom 38 = .ok (.aload_n 3, 1) := by decide +kernel
theorem dX5_misfitFrom_39 : decode cX5_misfitFrom 39 = .ok (.iload 4, 2) := by decide +kernel
theorem dX5_misfitFrom_41 : decode cX5_misfitFrom 41 = .ok (.iaload, 1) := by decide +kernel
theorem dX5_misfitFrom_42 : decode cX5_misfitFrom 42 = .ok (.if_icmp .le 8, 3) := by decide +kernel
theorem dX5_misfitFrom_45 : decode cX5_misfitFrom 45 = .ok (.iload_n 1, 1) := by decide +kernel
theorem dX5_misfitFrom_46 : decode cX5_misfitFrom 46 = .ok (.iload 4, 2) := by decide +kernel
theorem dX5_misfitFrom_48 : decode cX5_misfitFrom 48 = .ok (.iadd, 1) := by decide +kernel
theorem dX5_misfitFrom_49 : decode cX5_misfitFrom 49 = .ok (.ireturn, 1) := by decide +kernel
theorem dX5_misfitFrom_50 : decode cX5_misfitFrom 50 = .ok (.iinc 4 1, 3) := by decide +kernel
theorem dX5_misfitFrom_53 : decode cX5_misfitFrom 53 = .ok (.goto (-50), 3) := by decide +kernel
theorem dX5_misfitFrom_56 : decode cX5_misfitFrom 56 = .ok (.bipush (-9), 2) := by decide +kernel
theorem dX5_misfitFrom_58 : decode cX5_misfitFrom 58 = .ok (.ireturn, 1) := by decide +kernel
theorem dX5_tell_0 : decode cX5_tell 0 = .ok (.aload_n 1, 1) := by decide +kernel
theorem dX5_tell_1 : decode cX5_tell 1 = .ok (.invokevirtual 42, 3) := by decide +kernel
theorem dX5_tell_4 : decode cX5_tell 4 = .ok (.aload_n 2, 1) := by decide +kernel
theorem dX5_tell_5 : decode cX5_tell 5 = .ok (.invokevirtual 47, 3) := by decide +kernel
theorem dX5_tell_8 : decode cX5_tell 8 = .ok (.iconst 1, 1) := by decide +kernel
theorem dX5_tell_9 : decode cX5_tell 9 = .ok (.istore_n 3, 1) := by decide +kernel
theorem dX5_tell_10 : decode cX5_tell 10 = .ok (.iconst 0, 1) := by decide +kernel
theorem dX5_tell_11 : decode cX5_tell 11 = .ok (.istore 4, 2) := by decide +kernel
theorem dX5_tell_13 : decode cX5_tell 13 = .ok (.iload 4, 2) := by decide +kernel
theorem dX5_tell_15 : decode cX5_tell 15 = .ok (.bipush 48, 2) := by decide +kernel
theorem dX5_tell_17 : decode cX5_tell 17 = .ok (.if_icmp .ge 79, 3) := by decide +kernel
theorem dX5_tell_20 : decode cX5_tell 20 = .ok (.iload_n 3, 1) := by decide +kernel
theorem dX5_tell_21 : decode cX5_tell 21 = .ok (.aload_n 0, 1) := by decide +kernel
theorem dX5_tell_22 : decode cX5_tell 22 = .ok (.getfield 15, 3) := by decide +kernel
theorem dX5_tell_25 : decode cX5_tell 25 = .ok (.if_icmp .ge 71, 3) := by decide +kernel
theorem dX5_tell_28 : decode cX5_tell 28 = .ok (.aload_n 0, 1) := by decide +kernel
theorem dX5_tell_29 : decode cX5_tell 29 = .ok (.iload_n 3, 1) := by decide +kernel
theorem dX5_tell_30 : decode cX5_tell 30 = .ok (.invokevirtual 19, 3) := by decide +kernel
theorem dX5_tell_33 : decode cX5_tell 33 = .ok (.bipush 83, 2) := by decide +kernel
theorem dX5_tell_35 : decode cX5_tell 35 = .ok (.if_icmp .ne 27, 3) := by decide +kernel
theorem dX5_tell_38 : decode cX5_tell 38 = .ok (.aload_n 1, 1) := by decide +kernel
theorem dX5_tell_39 : decode cX5_tell 39 = .ok (.aload_n 0, 1) := by decide +kernel
theorem dX5_tell_40 : decode cX5_tell 40 = .ok (.iload_n 3, 1) := by decide +kernel
theorem dX5_tell_41 : decode cX5_tell 41 = .ok (.iconst 1, 1) := by decide +kernel
theorem dX5_tell_42 : decode cX5_tell 42 = .ok (.iadd, 1) := by decide +kernel
theorem dX5_tell_43 : decode cX5_tell 43 = .ok (.invokevirtual 39, 3) := by decide +kernel
theorem dX5_tell_46 : decode cX5_tell 46 = .ok (.aload_n 0, 1) := by decide +kernel
theorem dX5_tell_47 : decode cX5_tell 47 = .ok (.iload_n 3, 1) := by decide +kernel
theorem dX5_tell_48 : decode cX5_tell 48 = .ok (.iconst 2, 1) := by decide +kernel
theorem dX5_tell_49 : decode cX5_tell 49 = .ok (.iadd, 1) := by decide +kernel
theorem dX5_tell_50 : decode cX5_tell 50 = .ok (.invokevirtual 39, 3) := by decide +kernel
theorem dX5_tell_53 : decode cX5_tell 53 = .ok (.invokevirtual 50, 3) := by decide +kernel
theorem dX5_tell_56 : decode cX5_tell 56 = .ok (.iinc 3 3, 3) := by decide +kernel
theorem dX5_tell_59 : decode cX5_tell 59 = .ok (.goto 31, 3) := by decide +kernel
theorem dX5_tell_62 : decode cX5_tell 62 = .ok (.aload_n 2, 1) := by decide +kernel
theorem dX5_tell_63 : decode cX5_tell 63 = .ok (.aload_n 0, 1) := by decide +kernel
theorem dX5_tell_64 : decode cX5_tell 64 = .ok (.iload_n 3, 1) := by decide +kernel
theorem dX5_tell_65 : decode cX5_tell 65 = .ok (.iconst 1, 1) := by decide +kernel
theorem dX5_tell_66 : decode cX5_tell 66 = .ok (.iadd, 1) := by decide +kernel
theorem dX5_tell_67 : decode cX5_tell 67 = .ok (.invokevirtual 39, 3) := by decide +kernel
theorem dX5_tell_70 : decode cX5_tell 70 = .ok (.aload_n 0, 1) := by decide +kernel
theorem dX5_tell_71 : decode cX5_tell 71 = .ok (.iload_n 3, 1) := by decide +kernel
theorem dX5_tell_72 : decode cX5_tell 72 = .ok (.iconst 2, 1) := by decide +kernel
theorem dX5_tell_73 : decode cX5_tell 73 = .ok (.iadd, 1) := by decide +kernel
theorem dX5_tell_74 : decode cX5_tell 74 = .ok (.invokevirtual 39, 3) := by decide +kernel
theorem dX5_tell_77 : decode cX5_tell 77 = .ok (.aload_n 0, 1) := by decide +kernel
theorem dX5_tell_78 : decode cX5_tell 78 = .ok (.iload_n 3, 1) := by decide +kernel
theorem dX5_tell_79 : decode cX5_tell 79 = .ok (.iconst 3, 1) := by decide +kernel
theorem dX5_tell_80 : decode cX5_tell 80 = .ok (.iadd, 1) := by decide +kernel
theorem dX5_tell_81 : decode cX5_tell 81 = .ok (.invokevirtual 39, 3) := by decide +kernel
theorem dX5_tell_84 : decode cX5_tell 84 = .ok (.invokevirtual 54, 3) := by decide +kernel
theorem dX5_tell_87 : decode cX5_tell 87 = .ok (.iinc 3 4, 3) := by decide +kernel
theorem dX5_tell_90 : decode cX5_tell 90 = .ok (.iinc 4 1, 3) := by decide +kernel
theorem dX5_tell_93 : decode cX5_tell 93 = .ok (.goto (-80), 3) := by decide +kernel
theorem dX5_tell_96 : decode cX5_tell 96 = .ok (.return_, 1) := by decide +kernel
theorem dX6_init_0 : decode cX6_init 0 = .ok (.aload_n 0, 1) := by decide +kernel
theorem dX6_init_1 : decode cX6_init 1 = .ok (.invokespecial 3, 3) := by decide +kernel
theorem dX6_init_4 : decode cX6_init 4 = .ok (.aload_n 0, 1) := by decide +kernel
theorem dX6_init_5 : decode cX6_init 5 = .ok (.bipush 6, 2) := by decide +kernel
theorem dX6_init_7 : decode cX6_init 7 = .ok (.newarray .int, 2) := by decide +kernel
theorem dX6_init_9 : decode cX6_init 9 = .ok (.putfield 9, 3) := by decide +kernel
theorem dX6_init_12 : decode cX6_init 12 = .ok (.aload_n 0, 1) := by decide +kernel
theorem dX6_init_13 : decode cX6_init 13 = .ok (.bipush 6, 2) := by decide +kernel
theorem dX6_init_15 : decode cX6_init 15 = .ok (.newarray .int, 2) := by decide +kernel
theorem dX6_init_17 : decode cX6_init 17 = .ok (.putfield 15, 3) := by decide +kernel
theorem dX6_init_20 : decode cX6_init 20 = .ok (.aload_n 0, 1) := by decide +kernel
theorem dX6_init_21 : decode cX6_init 21 = .ok (.bipush 6, 2) := by decide +kernel
theorem dX6_init_23 : decode cX6_init 23 = .ok (.newarray .boolean, 2) := by decide +kernel
theorem dX6_init_25 : decode cX6_init 25 = .ok (.putfield 18, 3) := by decide +kernel
theorem dX6_init_28 : decode cX6_init 28 = .ok (.return_, 1) := by decide +kernel
theorem dX6_count_0 : decode cX6_count 0 = .ok (.aload_n 0, 1) := by decide +kernel
theorem dX6_count_1 : decode cX6_count 1 = .ok (.getfield 22, 3) := by decide +kernel
theorem dX6_count_4 : decode cX6_count 4 = .ok (.ireturn, 1) := by decide +kernel
theorem dX6_forgetAll_0 : decode cX6_forgetAll 0 = .ok (.aload_n 0, 1) := by decide +kernel
theorem dX6_forgetAll_1 : decode cX6_forgetAll 1 = .ok (.iconst 0, 1) := by decide +kernel
theorem dX6_forgetAll_2 : decode cX6_forgetAll 2 = .ok (.putfield 22, 3) := by decide +kernel
theorem dX6_forgetAll_5 : decode cX6_forgetAll 5 = .ok (.return_, 1) := by decide +kernel
theorem dX6_add_0 : decode cX6_add 0 = .ok (.aload_n 0, 1) := by decide +kernel
theorem dX6_add_1 : decode cX6_add 1 = .ok (.getfield 22, 3) := by decide +kernel
theorem dX6_add_4 : decode cX6_add 4 = .ok (.ifCond .lt 12, 3) := by decide +kernel
theorem dX6_add_7 : decode cX6_add 7 = .ok (.aload_n 0, 1) := by decide +kernel
theorem dX6_add_8 : decode cX6_add 8 = .ok (.getfield 22, 3) := by decide +kernel
theorem dX6_add_11 : decode cX6_add 11 = .ok (.bipush 6, 2) := by decide +kernel
theorem dX6_add_13 : decode cX6_add 13 = .ok (.if_icmp .lt 4, 3) := by decide +kernel
theorem dX6_add_16 : decode cX6_add 16 = .ok (.return_, 1) := by decide +kernel
theorem dX6_add_17 : decode cX6_add 17 = .ok (.aload_n 0, 1) := by decide +kernel
theorem dX6_add_18 : decode cX6_add 18 = .ok (.getfield 9, 3) := by decide +kernel
theorem dX6_add_21 : decode cX6_add 21 = .ok (.aload_n 0, 1) := by decide +kernel
theorem dX6_add_22 : decode cX6_add 22 = .ok (.getfield 22, 3) := by decide +kernel
theorem dX6_add_25 : decode cX6_add 25 = .ok (.iload_n 1, 1) := by decide +kernel
theorem dX6_add_26 : decode cX6_add 26 = .ok (.iastore, 1) := by decide +kernel
theorem dX6_add_27 : decode cX6_add 27 = .ok (.aload_n 0, 1) := by decide +kernel
theorem dX6_add_28 : decode cX6_add 28 = .ok (.getfield 15, 3) := by decide +kernel
theorem dX6_add_31 : decode cX6_add 31 = .ok (.aload_n 0, 1) := by decide +kernel
theorem dX6_add_32 : decode cX6_add 32 = .ok (.getfield 22, 3) := by decide +kernel
theorem dX6_add_35 : decode cX6_add 35 = .ok (.iload_n 2, 1) := by decide +kernel
theorem dX6_add_36 : decode cX6_add 36 = .ok (.iastore, 1) := by decide +kernel
theorem dX6_add_37 : decode cX6_add 37 = .ok (.aload_n 0, 1) := by decide +kernel
theorem dX6_add_38 : decode cX6_add 38 = .ok (.getfield 18, 3) := by decide +kernel
theorem dX6_add_41 : decode cX6_add 41 = .ok (.aload_n 0, 1) := by decide +kernel
theorem dX6_add_42 : decode cX6_add 42 = .ok (.getfield 22, 3) := by decide +kernel
theorem dX6_add_45 : decode cX6_add 45 = .ok (.iload_n 3, 1) := by decide +kernel
theorem dX6_add_46 : decode cX6_add 46 = .ok (.bastore, 1) := by decide +kernel
theorem dX6_add_47 : decode cX6_add 47 = .ok (.aload_n 0, 1) := by decide +kernel
theorem dX6_add_48 : decode cX6_add 48 = .ok (.dup, 1) := by decide +kernel
theorem dX6_add_49 : decode cX6_add 49 = .ok (.getfield 22, 3) := by decide +kernel
theorem dX6_add_52 : decode cX6_add 52 = .ok (.iconst 1, 1) := by decide +kernel
theorem dX6_add_53 : decode cX6_add 53 = .ok (.iadd, 1) := by decide +kernel
theorem dX6_add_54 : decode cX6_add 54 = .ok (.putfield 22, 3) := by decide +kernel
theorem dX6_add_57 : decode cX6_add 57 = .ok (.return_, 1) := by decide +kernel
theorem dX6_fits_0 : decode cX6_fits 0 = .ok (.iconst 0, 1) := by decide +kernel
theorem dX6_fits_1 : decode cX6_fits 1 = .ok (.istore_n 3, 1) := by decide +kernel
theorem dX6_fits_2 : decode cX6_fits 2 = .ok (.iload_n 3, 1) := by decide +kernel
theorem dX6_fits_3 : decode cX6_fits 3 = .ok (.aload_n 0, 1) := by decide +kernel
theorem dX6_fits_4 : decode cX6_fits 4 = .ok (.getfield 22, 3) := by decide +kernel
theorem dX6_fits_7 : decode cX6_fits 7 = .ok (.if_icmp .ge 55, 3) := by decide +kernel
theorem dX6_fits_10 : decode cX6_fits 10 = .ok (.iload_n 3, 1) := by decide +kernel
theorem dX6_fits_11 : decode cX6_fits 11 = .ok (.bipush 6, 2) := by decide +kernel
theorem dX6_fits_13 : decode cX6_fits 13 = .ok (.if_icmp .ge 49, 3) := by decide +kernel
theorem dX6_fits_16 : decode cX6_fits 16 = .ok (.iload_n 2, 1) := by decide +kernel
theorem dX6_fits_17 : decode cX6_fits 17 = .ok (.iload_n 1, 1) := by decide +kernel
theorem dX6_fits_18 : decode cX6_fits 18 = .ok (.aload_n 0, 1) := by decide +kernel
theorem dX6_fits_19 : decode cX6_fits 19 = .ok (.getfield 9, 3) := by decide +kernel
theorem dX6_fits_22 : decode cX6_fits 22 = .ok (.iload_n 3, 1) := by decide +kernel
theorem dX6_fits_23 : decode cX6_fits 23 = .ok (.iaload, 1) := by decide +kernel
theorem dX6_fits_24 : decode cX6_fits 24 = .ok (.invokestatic 26, 3) := by decide +kernel
theorem dX6_fits_27 : decode cX6_fits 27 = .ok (.aload_n 0, 1) := by decide +kernel
theorem dX6_fits_28 : decode cX6_fits 28 = .ok (.getfield 15, 3) := by decide +kernel
theorem dX6_fits_31 : decode cX6_fits 31 = .ok (.iload_n 3, 1) := by decide +kernel
theorem dX6_fits_32 : decode cX6_fits 32 = .ok (.iaload, 1) := by decide +kernel
theorem dX6_fits_33 : decode cX6_fits 33 = .ok (.if_icmp .gt 7, 3) := by decide +kernel
theorem dX6_fits_36 : decode cX6_fits 36 = .ok (.iconst 1, 1) := by decide +kernel
theorem dX6_fits_37 : decode cX6_fits 37 = .ok (.goto 4, 3) := by decide +kernel
theorem dX6_fits_40 : decode cX6_fits 40 = .ok (.iconst 0, 1) := by decide +kernel
theorem dX6_fits_41 : decode cX6_fits 41 = .ok (.istore 4, 2) := by decide +kernel
theorem dX6_fits_43 : decode cX6_fits 43 = .ok (.iload 4, 2) := by decide +kernel
theorem dX6_fits_45 : decode cX6_fits 45 = .ok (.aload_n 0, 1) := by decide +kernel
theorem dX6_fits_46 : decode cX6_fits 46 = .ok (.getfield 18, 3) := by decide +kernel
theorem dX6_fits_49 : decode cX6_fits 49 = .ok (.iload_n 3, 1) := by decide +kernel
theorem dX6_fits_50 : decode cX6_fits 50 = .ok (.baload, 1) := by decide +kernel
theorem dX6_fits_51 : decode cX6_fits 51 = .ok (.if_icmp .eq 5, 3) := by decide +kernel
theorem dX6_fits_54 : decode cX6_fits 54 = .ok (.iconst 0, 1) := by decide +kernel
theorem dX6_fits_55 : decode cX6_fits 55 = .ok (.ireturn, 1) := by decide +kernel
theorem dX6_fits_56 : decode cX6_fits 56 = .ok (.iinc 3 1, 3) := by decide +kernel
theorem dX6_fits_59 : decode cX6_fits 59 = .ok (.goto (-57), 3) := by decide +kernel
theorem dX6_fits_62 : decode cX6_fits 62 = .ok (.iconst 1, 1) := by decide +kernel
theorem dX6_fits_63 : decode cX6_fits 63 = .ok (.ireturn, 1) := by decide +kernel
theorem dX6_fittingCount_0 : decode cX6_fittingCount 0 = .ok (.iconst 0, 1) := by decide +kernel
theorem dX6_fittingCount_1 : decode cX6_fittingCount 1 = .ok (.istore_n 1, 1) := by decide +kernel
theorem dX6_fittingCount_2 : decode cX6_fittingCount 2 = .ok (.iconst 0, 1) := by decide +kernel
theorem dX6_fittingCount_3 : decode cX6_fittingCount 3 = .ok (.istore_n 2, 1) := by decide +kernel
theorem dX6_fittingCount_4 : decode cX6_fittingCount 4 = .ok (.iload_n 2, 1) := by decide +kernel
theorem dX6_fittingCount_5 : decode cX6_fittingCount 5 = .ok (.iconst 3, 1) := by decide +kernel
theorem dX6_fittingCount_6 : decode cX6_fittingCount 6 = .ok (.if_icmp .ge 35, 3) := by decide +kernel
theorem dX6_fittingCount_9 : decode cX6_fittingCount 9 = .ok (.iconst 1, 1) := by decide +kernel
theorem dX6_fittingCount_10 : decode cX6_fittingCount 10 = .ok (.istore_n 3, 1) := by decide +kernel
theorem dX6_fittingCount_11 : decode cX6_fittingCount 11 = .ok (.iload_n 3, 1) := by decide +kernel
theorem dX6_fittingCount_12 : decode cX6_fittingCount 12 = .ok (.bipush 9, 2) := by decide +kernel
theorem dX6_fittingCount_14 : decode cX6_fittingCount 14 = .ok (.if_icmp .gt 21, 3) := by decide +kernel
theorem dX6_fittingCount_17 : decode cX6_fittingCount 17 = .ok (.aload_n 0, 1) := by decide +kernel
theorem dX6_fittingCount_18 : decode cX6_fittingCount 18 = .ok (.iload_n 2, 1) := by decide +kernel
theorem dX6_fittingCount_19 : decode cX6_fittingCount 19 = .ok (.iload_n 3, 1) := by decide +kernel
theorem dX6_fittingCount_20 : decode cX6_fittingCount 20 = .ok (.invokevirtual 30, 3) := by decide +kernel
theorem dX6_fittingCount_23 : decode cX6_fittingCount 23 = .ok (.ifCond .eq 6, 3) := by decide +kernel
theorem dX6_fittingCount_26 : decode cX6_fittingCount 26 = .ok (.iinc 1 1, 3) := by decide +kernel
theorem dX6_fittingCount_29 : decode cX6_fittingCount 29 = .ok (.iinc 3 1, 3) := by decide +kernel
theorem dX6_fittingCount_32 : decode cX6_fittingCount 32 = .ok (.goto (-21), 3) := by decide +kernel
theorem dX6_fittingCount_35 : decode cX6_fittingCount 35 = .ok (.iinc 2 1, 3) := by decide +kernel
theorem dX6_fittingCount_38 : decode cX6_fittingCount 38 = .ok (.goto (-34), 3) := by decide +kernel
theorem dX6_fittingCount_41 : decode cX6_fittingCount 41 = .ok (.iload_n 1, 1) := by decide +kernel
theorem dX6_fittingCount_42 : decode cX6_fittingCount 42 = .ok (.ireturn, 1) := by decide +kernel
theorem dX6_firstFitting_0 : decode cX6_firstFitting 0 = .ok (.iconst 0, 1) := by decide +kernel
theorem dX6_firstFitting_1 : decode cX6_firstFitting 1 = .ok (.istore_n 1, 1) := by decide +kernel
theorem dX6_firstFitting_2 : decode cX6_firstFitting 2 = .ok (.iload_n 1, 1) := by decide +kernel
theorem dX6_firstFitting_3 : decode cX6_firstFitting 3 = .ok (.iconst 3, 1) := by decide +kernel
theorem dX6_firstFitting_4 : decode cX6_firstFitting 4 = .ok (.if_icmp .ge 39, 3) := by decide +kernel
theorem dX6_firstFitting_7 : decode cX6_firstFitting 7 = .ok (.iconst 1, 1) := by decide +kernel
theorem dX6_firstFitting_8 : decode cX6_firstFitting 8 = .ok (.istore_n 2, 1) := by decide +kernel
theorem dX6_firstFitting_9 : decode cX6_firstFitting 9 = .ok (.iload_n 2, 1) := by decide +kernel
theorem dX6_firstFitting_10 : decode cX6_firstFitting 10 = .ok (.bipush 9, 2) := by decide +kernel
theorem dX6_firstFitting_12 : decode cX6_firstFitting 12 = .ok (.if_icmp .gt 25, 3) := by decide +kernel
theorem dX6_firstFitting_15 : decode cX6_firstFitting 15 = .ok (.aload_n 0, 1) := by decide +kernel
theorem dX6_firstFitting_16 : decode cX6_firstFitting 16 = .ok (.iload_n 1, 1) := by decide +kernel
theorem dX6_firstFitting_17 : decode cX6_firstFitting 17 = .ok (.iload_n 2, 1) := by decide +kernel
theorem dX6_firstFitting_18 : decode cX6_firstFitting 18 = .ok (.invokevirtual 30, 3) := by decide +kernel
theorem dX6_firstFitting_21 : decode cX6_firstFitting 21 = .ok (.ifCond .eq 10, 3) := by decide +kernel
theorem dX6_firstFitting_24 : decode cX6_firstFitting 24 = .ok (.bipush 10, 2) := by decide +kernel
theorem dX6_firstFitting_26 : decode cX6_firstFitting 26 = .ok (.iload_n 1, 1) := by decide +kernel
theorem dX6_firstFitting_27 : decode cX6_firstFitting 27 = .ok (.imul, 1) := by decide +kernel
theorem dX6_firstFitting_28 : decode cX6_firstFitting 28 = .ok (.iload_n 2, 1) := by decide +kernel
theorem dX6_firstFitting_29 : decode cX6_firstFitting 29 = .ok (.iadd, 1) := by decide +kernel
theorem dX6_firstFitting_30 : decode cX6_firstFitting 30 = .ok (.ireturn, 1) := by decide +kernel
theorem dX6_firstFitting_31 : decode cX6_firstFitting 31 = .ok (.iinc 2 1, 3) := by decide +kernel
theorem dX6_firstFitting_34 : decode cX6_firstFitting 34 = .ok (.goto (-25), 3) := by decide +kernel
theorem dX6_firstFitting_37 : decode cX6_firstFitting 37 = .ok (.iinc 1 1, 3) := by decide +kernel
theorem dX6_firstFitting_40 : decode cX6_firstFitting 40 = .ok (.goto (-38), 3) := by decide +kernel
theorem dX6_firstFitting_43 : decode cX6_firstFitting 43 = .ok (.bipush (-9), 2) := by decide +kernel
theorem dX6_firstFitting_45 : decode cX6_firstFitting 45 = .ok (.ireturn, 1) := by decide +kernel
theorem dX7_init_0 : decode cX7_init 0 = .ok (.aload_n 0, 1) := by decide +kernel
theorem dX7_init_1 : decode cX7_init 1 = .ok (.invokespecial 3, 3) := by decide +kernel
theorem dX7_init_4 : decode cX7_init 4 = .ok (.aload_n 0, 1) := by decide +kernel
theorem dX7_init_5 : decode cX7_init 5 = .ok (.iconst 5, 1) := by decide +kernel
theorem dX7_init_6 : decode cX7_init 6 = .ok (.newarray .int, 2) := by decide +kernel
theorem dX7_init_8 : decode cX7_init 8 = .ok (.putfield 9, 3) := by decide +kernel
theorem dX7_init_11 : decode cX7_init 11 = .ok (.aload_n 0, 1) := by decide +kernel
theorem dX7_init_12 : decode cX7_init 12 = .ok (.iconst 5, 1) := by decide +kernel
theorem dX7_init_13 : decode cX7_init 13 = .ok (.newarray .int, 2) := by decide +kernel
theorem dX7_init_15 : decode cX7_init 15 = .ok (.putfield 15, 3) := by decide +kernel
theorem dX7_init_18 : decode cX7_init 18 = .ok (.aload_n 0, 1) := by decide +kernel
theorem dX7_init_19 : decode cX7_init 19 = .ok (.iconst 5, 1) := by decide +kernel
theorem dX7_init_20 : decode cX7_init 20 = .ok (.newarray .int, 2) := by decide +kernel
theorem dX7_init_22 : decode cX7_init 22 = .ok (.putfield 18, 3) := by decide +kernel
theorem dX7_init_25 : decode cX7_init 25 = .ok (.return_, 1) := by decide +kernel
theorem dX7_count_0 : decode cX7_count 0 = .ok (.aload_n 0, 1) := by decide +kernel
theorem dX7_count_1 : decode cX7_count 1 = .ok (.getfield 21, 3) := by decide +kernel
theorem dX7_count_4 : decode cX7_count 4 = .ok (.ireturn, 1) := by decide +kernel
theorem dX7_empty_0 : decode cX7_empty 0 = .ok (.aload_n 0, 1) := by decide +kernel
theorem dX7_empty_1 : decode cX7_empty 1 = .ok (.iconst 0, 1) := by decide +kernel
theorem dX7_empty_2 : decode cX7_empty 2 = .ok (.putfield 21, 3) := by decide +kernel
theorem dX7_empty_5 : decode cX7_empty 5 = .ok (.return_, 1) := by decide +kernel
theorem dX7_add_0 : decode cX7_add 0 = .ok (.aload_n 0, 1) := by decide +kernel
theorem dX7_add_1 : decode cX7_add 1 = .ok (.getfield 21, 3) := by decide +kernel
theorem dX7_add_4 : decode cX7_add 4 = .ok (.ifCond .lt 11, 3) := by decide +kernel
theorem dX7_add_7 : decode cX7_add 7 = .ok (.aload_n 0, 1) := by decide +kernel
theorem dX7_add_8 : decode cX7_add 8 = .ok (.getfield 21, 3) := by decide +kernel
theorem dX7_add_11 : decode cX7_add 11 = .ok (.iconst 5, 1) := by decide +kernel
theorem dX7_add_12 : decode cX7_add 12 = .ok (.if_icmp .lt 4, 3) := by decide +kernel
theorem dX7_add_15 : decode cX7_add 15 = .ok (.return_, 1) := by decide +kernel
theorem dX7_add_16 : decode cX7_add 16 = .ok (.aload_n 0, 1) := by decide +kernel
theorem dX7_add_17 : decode cX7_add 17 = .ok (.getfield 9, 3) := by decide +kernel
theorem dX7_add_20 : decode cX7_add 20 = .ok (.aload_n 0, 1) := by decide +kernel
theorem dX7_add_21 : decode cX7_add 21 = .ok (.getfield 21, 3) := by decide +kernel
theorem dX7_add_24 : decode cX7_add 24 = .ok (.iload_n 1, 1) := by decide +kernel
theorem dX7_add_25 : decode cX7_add 25 = .ok (.iastore, 1) := by decide +kernel
theorem dX7_add_26 : decode cX7_add 26 = .ok (.aload_n 0, 1) := by decide +kernel
theorem dX7_add_27 : decode cX7_add 27 = .ok (.getfield 15, 3) := by decide +kernel
theorem dX7_add_30 : decode cX7_add 30 = .ok (.aload_n 0, 1) := by decide +kernel
theorem dX7_add_31 : decode cX7_add 31 = .ok (.getfield 21, 3) := by decide +kernel
theorem dX7_add_34 : decode cX7_add 34 = .ok (.iload_n 2, 1) := by decide +kernel
theorem dX7_add_35 : decode cX7_add 35 = .ok (.iastore, 1) := by decide +kernel
theorem dX7_add_36 : decode cX7_add 36 = .ok (.aload_n 0, 1) := by decide +kernel
theorem dX7_add_37 : decode cX7_add 37 = .ok (.getfield 18, 3) := by decide +kernel
theorem dX7_add_40 : decode cX7_add 40 = .ok (.aload_n 0, 1) := by decide +kernel
theorem dX7_add_41 : decode cX7_add 41 = .ok (.getfield 21, 3) := by decide +kernel
theorem dX7_add_44 : decode cX7_add 44 = .ok (.iload_n 3, 1) := by decide +kernel
theorem dX7_add_45 : decode cX7_add 45 = .ok (.iastore, 1) := by decide +kernel
theorem dX7_add_46 : decode cX7_add 46 = .ok (.aload_n 0, 1) := by decide +kernel
theorem dX7_add_47 : decode cX7_add 47 = .ok (.dup, 1) := by decide +kernel
theorem dX7_add_48 : decode cX7_add 48 = .ok (.getfield 21, 3) := by decide +kernel
theorem dX7_add_51 : decode cX7_add 51 = .ok (.iconst 1, 1) := by decide +kernel
theorem dX7_add_52 : decode cX7_add 52 = .ok (.iadd, 1) := by decide +kernel
theorem dX7_add_53 : decode cX7_add 53 = .ok (.putfield 21, 3) := by decide +kernel
theorem dX7_add_56 : decode cX7_add 56 = .ok (.return_, 1) := by decide +kernel
theorem dX7_has_0 : decode cX7_has 0 = .ok (.iload_n 1, 1) := by decide +kernel
theorem dX7_has_1 : decode cX7_has 1 = .ok (.ifCond .lt 20, 3) := by decide +kernel
theorem dX7_has_4 : decode cX7_has 4 = .ok (.iload_n 1, 1) := by decide +kernel
theorem dX7_has_5 : decode cX7_has 5 = .ok (.aload_n 0, 1) := by decide +kernel
theorem dX7_has_6 : decode cX7_has 6 = .ok (.getfield 21, 3) := by decide +kernel
theorem dX7_has_9 : decode cX7_has 9 = .ok (.if_icmp .ge 12, 3) := by decide +kernel
theorem dX7_has_12 : decode cX7_has 12 = .ok (.iload_n 1, 1) := by decide +kernel
theorem dX7_has_13 : decode cX7_has 13 = .ok (.iconst 5, 1) := by decide +kernel
theorem dX7_has_14 : decode cX7_has 14 = .ok (.if_icmp .ge 7, 3) := by decide +kernel
theorem dX7_has_17 : decode cX7_has 17 = .ok (.iconst 1, 1) := by decide +kernel
theorem dX7_has_18 : decode cX7_has 18 = .ok (.goto 4, 3) := by decide +kernel
theorem dX7_has_21 : decode cX7_has 21 = .ok (.iconst 0, 1) := by decide +kernel
theorem dX7_has_22 : decode cX7_has 22 = .ok (.ireturn, 1) := by decide +kernel
theorem dX7_paceOf_0 : decode cX7_paceOf 0 = .ok (.iload_n 1, 1) := by decide +kernel
theorem dX7_paceOf_1 : decode cX7_paceOf 1 = .ok (.ifCond .lt 29, 3) := by decide +kernel
theorem dX7_paceOf_4 : decode cX7_paceOf 4 = .ok (.iload_n 1, 1) := by decide +kernel
theorem dX7_paceOf_5 : decode cX7_paceOf 5 = .ok (.aload_n 0, 1) := by decide +kernel
theorem dX7_paceOf_6 : decode cX7_paceOf 6 = .ok (.getfield 21, 3) := by decide +kernel
theorem dX7_paceOf_9 : decode cX7_paceOf 9 = .ok (.if_icmp .ge 21, 3) := by decide +kernel
theorem dX7_paceOf_12 : decode cX7_paceOf 12 = .ok (.iload_n 1, 1) := by decide +kernel
theorem dX7_paceOf_13 : decode cX7_paceOf 13 = .ok (.aload_n 0, 1) := by decide +kernel
theorem dX7_paceOf_14 : decode cX7_paceOf 14 = .ok (.getfield 9, 3) := by decide +kernel
theorem dX7_paceOf_17 : decode cX7_paceOf 17 = .ok (.arraylength, 1) := by decide +kernel
theorem dX7_paceOf_18 : decode cX7_paceOf 18 = .ok (.if_icmp .ge 12, 3) := by decide +kernel
theorem dX7_paceOf_21 : decode cX7_paceOf 21 = .ok (.aload_n 0, 1) := by decide +kernel
theorem dX7_paceOf_22 : decode cX7_paceOf 22 = .ok (.getfield 9, 3) := by decide +kernel
theorem dX7_paceOf_25 : decode cX7_paceOf 25 = .ok (.iload_n 1, 1) := by decide +kernel
theorem dX7_paceOf_26 : decode cX7_paceOf 26 = .ok (.iaload, 1) := by decide +kernel
theorem dX7_paceOf_27 : decode cX7_paceOf 27 = .ok (.goto 4, 3) := by decide +kernel
theorem dX7_paceOf_30 : decode cX7_paceOf 30 = .ok (.iconst 0, 1) := by decide +kernel
theorem dX7_paceOf_31 : decode cX7_paceOf 31 = .ok (.ireturn, 1) := by decide +kernel
theorem dX7_kindOf_0 : decode cX7_kindOf 0 = .ok (.iload_n 1, 1) := by decide +kernel
theorem dX7_kindOf_1 : decode cX7_kindOf 1 = .ok (.ifCond .lt 29, 3) := by decide +kernel
theorem dX7_kindOf_4 : decode cX7_kindOf 4 = .ok (.iload_n 1, 1) := by decide +kernel
theorem dX7_kindOf_5 : decode cX7_kindOf 5 = .ok (.aload_n 0, 1) := by decide +kernel
theorem dX7_kindOf_6 : decode cX7_kindOf 6 = .ok (.getfield 21, 3) := by decide +kernel
theorem dX7_kindOf_9 : decode cX7_kindOf 9 = .ok (.if_icmp .ge 21, 3) := by decide +kernel
theorem dX7_kindOf_12 : decode cX7_kindOf 12 = .ok (.iload_n 1, 1) := by decide +kernel
theorem dX7_kindOf_13 : decode cX7_kindOf 13 = .ok (.aload_n 0, 1) := by decide +kernel
theorem dX7_kindOf_14 : decode cX7_kindOf 14 = .ok (.getfield 15, 3) := by decide +kernel
theorem dX7_kindOf_17 : decode cX7_kindOf 17 = .ok (.arraylength, 1) := by decide +kernel
theorem dX7_kindOf_18 : decode cX7_kindOf 18 = .ok (.if_icmp .ge 12, 3) := by decide +kernel
theorem dX7_kindOf_21 : decode cX7_kindOf 21 = .ok (.aload_n 0, 1) := by decide +kernel
theorem dX7_kindOf_22 : decode cX7_kindOf 22 = .ok (.getfield 15, 3) := by decide +kernel
theorem dX7_kindOf_25 : decode cX7_kindOf 25 = .ok (.iload_n 1, 1) := by decide +kernel
theorem dX7_kindOf_26 : decode cX7_kindOf 26 = .ok (.iaload, 1) := by decide +kernel
theorem dX7_kindOf_27 : decode cX7_kindOf 27 = .ok (.goto 5, 3) := by decide +kernel
theorem dX7_kindOf_30 : decode cX7_kindOf 30 = .ok (.bipush (-9), 2) := by decide +kernel
theorem dX7_kindOf_32 : decode cX7_kindOf 32 = .ok (.ireturn, 1) := by decide +kernel
theorem dX7_toldThornsOf_0 : decode cX7_toldThornsOf 0 = .ok (.aload_n 0, 1) := by decide +kernel
theorem dX7_toldThornsOf_1 : decode cX7_toldThornsOf 1 = .ok (.iload_n 1, 1) := by decide +kernel
theorem dX7_toldThornsOf_2 : decode cX7_toldThornsOf 2 = .ok (.invokevirtual 25, 3) := by decide +kernel
theorem dX7_toldThornsOf_5 : decode cX7_toldThornsOf 5 = .ok (.ifCond .eq 12, 3) := by decide +kernel
theorem dX7_toldThornsOf_8 : decode cX7_toldThornsOf 8 = .ok (.aload_n 0, 1) := by decide +kernel
theorem dX7_toldThornsOf_9 : decode cX7_toldThornsOf 9 = .ok (.getfield 18, 3) := by decide +kernel
theorem dX7_toldThornsOf_12 : decode cX7_toldThornsOf 12 = .ok (.iload_n 1, 1) := by decide +kernel
theorem dX7_toldThornsOf_13 : decode cX7_toldThornsOf 13 = .ok (.iaload, 1) := by decide +kernel
theorem dX7_toldThornsOf_14 : decode cX7_toldThornsOf 14 = .ok (.goto 4, 3) := by decide +kernel
theorem dX7_toldThornsOf_17 : decode cX7_toldThornsOf 17 = .ok (.iconst 0, 1) := by decide +kernel
theorem dX7_toldThornsOf_18 : decode cX7_toldThornsOf 18 = .ok (.ireturn, 1) := by decide +kernel
theorem dX8_init_0 : decode cX8_init 0 = .ok (.aload_n 0, 1) := by decide +kernel
theorem dX8_init_1 : decode cX8_init 1 = .ok (.invokespecial 1, 3) := by decide +kernel
theorem dX8_init_4 : decode cX8_init 4 = .ok (.aload_n 0, 1) := by decide +kernel
theorem dX8_init_5 : decode cX8_init 5 = .ok (.new 7, 3) := by decide +kernel
theorem dX8_init_8 : decode cX8_init 8 = .ok (.dup, 1) := by decide +kernel
theorem dX8_init_9 : decode cX8_init 9 = .ok (.invokespecial 9, 3) := by decide +kernel
