theorem dX9_speed_0 : decode cX9_speed 0 = .ok (.aload_n 0, 1) := by decide +kernel
theorem dX9_speed_1 : decode cX9_speed 1 = .ok (.getfield 19, 3) := by decide +kernel
theorem dX9_speed_4 : decode cX9_speed 4 = .ok (.iload_n 2, 1) := by decide +kernel
theorem dX9_speed_5 : decode cX9_speed 5 = .ok (.iaload, 1) := by decide +kernel
theorem dX9_speed_6 : decode cX9_speed 6 = .ok (.aload_n 0, 1) := by decide +kernel
theorem dX9_speed_7 : decode cX9_speed 7 = .ok (.getfield 22, 3) := by decide +kernel
theorem dX9_speed_10 : decode cX9_speed 10 = .ok (.iload_n 2, 1) := by decide +kernel
theorem dX9_speed_11 : decode cX9_speed 11 = .ok (.iaload, 1) := by decide +kernel
theorem dX9_speed_12 : decode cX9_speed 12 = .ok (.aload_n 1, 1) := by decide +kernel
theorem dX9_speed_13 : decode cX9_speed 13 = .ok (.iconst 2, 1) := by decide +kernel
theorem dX9_speed_14 : decode cX9_speed 14 = .ok (.iload_n 2, 1) := by decide +kernel
theorem dX9_speed_15 : decode cX9_speed 15 = .ok (.iadd, 1) := by decide +kernel
theorem dX9_speed_16 : decode cX9_speed 16 = .ok (.iaload, 1) := by decide +kernel
theorem dX9_speed_17 : decode cX9_speed 17 = .ok (.invokestatic 117, 3) := by decide +kernel
theorem dX9_speed_20 : decode cX9_speed 20 = .ok (.ireturn, 1) := by decide +kernel
theorem dX9_leader_0 : decode cX9_leader 0 = .ok (.bipush (-9), 2) := by decide +kernel
theorem dX9_leader_2 : decode cX9_leader 2 = .ok (.istore_n 3, 1) := by decide +kernel
theorem dX9_leader_3 : decode cX9_leader 3 = .ok (.aload_n 0, 1) := by decide +kernel
theorem dX9_leader_4 : decode cX9_leader 4 = .ok (.getfield 69, 3) := by decide +kernel
theorem dX9_leader_7 : decode cX9_leader 7 = .ok (.iconst 1, 1) := by decide +kernel
theorem dX9_leader_8 : decode cX9_leader 8 = .ok (.isub, 1) := by decide +kernel
theorem dX9_leader_9 : decode cX9_leader 9 = .ok (.istore 4, 2) := by decide +kernel
theorem dX9_leader_11 : decode cX9_leader 11 = .ok (.iload 4, 2) := by decide +kernel
theorem dX9_leader_13 : decode cX9_leader 13 = .ok (.ifCond .lt 47, 3) := by decide +kernel
theorem dX9_leader_16 : decode cX9_leader 16 = .ok (.iload_n 2, 1) := by decide +kernel
theorem dX9_leader_17 : decode cX9_leader 17 = .ok (.iload 4, 2) := by decide +kernel
theorem dX9_leader_19 : decode cX9_leader 19 = .ok (.invokestatic 121, 3) := by decide +kernel
theorem dX9_leader_22 : decode cX9_leader 22 = .ok (.ifCond .eq 30, 3) := by decide +kernel
theorem dX9_leader_25 : decode cX9_leader 25 = .ok (.iload_n 3, 1) := by decide +kernel
theorem dX9_leader_26 : decode cX9_leader 26 = .ok (.bipush (-9), 2) := by decide +kernel
theorem dX9_leader_28 : decode cX9_leader 28 = .ok (.if_icmp .eq 19, 3) := by decide +kernel
theorem dX9_leader_31 : decode cX9_leader 31 = .ok (.aload_n 0, 1) := by decide +kernel
theorem dX9_leader_32 : decode cX9_leader 32 = .ok (.aload_n 1, 1) := by decide +kernel
theorem dX9_leader_33 : decode cX9_leader 33 = .ok (.iload 4, 2) := by decide +kernel
theorem dX9_leader_35 : decode cX9_leader 35 = .ok (.invokevirtual 125, 3) := by decide +kernel
theorem dX9_leader_38 : decode cX9_leader 38 = .ok (.aload_n 0, 1) := by decide +kernel
theorem dX9_leader_39 : decode cX9_leader 39 = .ok (.aload_n 1, 1) := by decide +kernel
theorem dX9_leader_40 : decode cX9_leader 40 = .ok (.iload_n 3, 1) := by decide +kernel
theorem dX9_leader_41 : decode cX9_leader 41 = .ok (.invokevirtual 125, 3) := by decide +kernel
theorem dX9_leader_44 : decode cX9_leader 44 = .ok (.if_icmp .gt 8, 3) := by decide +kernel
theorem dX9_leader_47 : decode cX9_leader 47 = .ok (.iload 4, 2) := by decide +kernel
theorem dX9_leader_49 : decode cX9_leader 49 = .ok (.goto 4, 3) := by decide +kernel
theorem dX9_leader_52 : decode cX9_leader 52 = .ok (.iload_n 3, 1) := by decide +kernel
theorem dX9_leader_53 : decode cX9_leader 53 = .ok (.istore_n 3, 1) := by decide +kernel
theorem dX9_leader_54 : decode cX9_leader 54 = .ok (.iinc 4 (-1), 3) := by decide +kernel
theorem dX9_leader_57 : decode cX9_leader 57 = .ok (.goto (-46), 3) := by decide +kernel
theorem dX9_leader_60 : decode cX9_leader 60 = .ok (.iload_n 3, 1) := by decide +kernel
theorem dX9_leader_61 : decode cX9_leader 61 = .ok (.ireturn, 1) := by decide +kernel
theorem dX9_begins_0 : decode cX9_begins 0 = .ok (.iconst 0, 1) := by decide +kernel
theorem dX9_begins_1 : decode cX9_begins 1 = .ok (.istore_n 2, 1) := by decide +kernel
theorem dX9_begins_2 : decode cX9_begins 2 = .ok (.iconst 0, 1) := by decide +kernel
theorem dX9_begins_3 : decode cX9_begins 3 = .ok (.istore_n 3, 1) := by decide +kernel
theorem dX9_begins_4 : decode cX9_begins 4 = .ok (.iload_n 3, 1) := by decide +kernel
theorem dX9_begins_5 : decode cX9_begins 5 = .ok (.iload_n 1, 1) := by decide +kernel
theorem dX9_begins_6 : decode cX9_begins 6 = .ok (.if_icmp .ge 18, 3) := by decide +kernel
theorem dX9_begins_9 : decode cX9_begins 9 = .ok (.iload_n 2, 1) := by decide +kernel
theorem dX9_begins_10 : decode cX9_begins 10 = .ok (.aload_n 0, 1) := by decide +kernel
theorem dX9_begins_11 : decode cX9_begins 11 = .ok (.getfield 13, 3) := by decide +kernel
theorem dX9_begins_14 : decode cX9_begins 14 = .ok (.iload_n 3, 1) := by decide +kernel
theorem dX9_begins_15 : decode cX9_begins 15 = .ok (.iaload, 1) := by decide +kernel
theorem dX9_begins_16 : decode cX9_begins 16 = .ok (.iadd, 1) := by decide +kernel
theorem dX9_begins_17 : decode cX9_begins 17 = .ok (.istore_n 2, 1) := by decide +kernel
theorem dX9_begins_18 : decode cX9_begins 18 = .ok (.iinc 3 1, 3) := by decide +kernel
theorem dX9_begins_21 : decode cX9_begins 21 = .ok (.goto (-17), 3) := by decide +kernel
theorem dX9_begins_24 : decode cX9_begins 24 = .ok (.iload_n 2, 1) := by decide +kernel
theorem dX9_begins_25 : decode cX9_begins 25 = .ok (.ireturn, 1) := by decide +kernel
theorem dX9_stretchAt_0 : decode cX9_stretchAt 0 = .ok (.bipush (-9), 2) := by decide +kernel
theorem dX9_stretchAt_2 : decode cX9_stretchAt 2 = .ok (.istore_n 2, 1) := by decide +kernel
theorem dX9_stretchAt_3 : decode cX9_stretchAt 3 = .ok (.iconst 0, 1) := by decide +kernel
theorem dX9_stretchAt_4 : decode cX9_stretchAt 4 = .ok (.istore_n 3, 1) := by decide +kernel
theorem dX9_stretchAt_5 : decode cX9_stretchAt 5 = .ok (.iload_n 3, 1) := by decide +kernel
theorem dX9_stretchAt_6 : decode cX9_stretchAt 6 = .ok (.aload_n 0, 1) := by decide +kernel
theorem dX9_stretchAt_7 : decode cX9_stretchAt 7 = .ok (.getfield 108, 3) := by decide +kernel
theorem dX9_stretchAt_10 : decode cX9_stretchAt 10 = .ok (.if_icmp .ge 40, 3) := by decide +kernel
theorem dX9_stretchAt_13 : decode cX9_stretchAt 13 = .ok (.iload_n 1, 1) := by decide +kernel
theorem dX9_stretchAt_14 : decode cX9_stretchAt 14 = .ok (.aload_n 0, 1) := by decide +kernel
theorem dX9_stretchAt_15 : decode cX9_stretchAt 15 = .ok (.iload_n 3, 1) := by decide +kernel
theorem dX9_stretchAt_16 : decode cX9_stretchAt 16 = .ok (.invokevirtual 129, 3) := by decide +kernel
theorem dX9_stretchAt_19 : decode cX9_stretchAt 19 = .ok (.if_icmp .lt 23, 3) := by decide +kernel
theorem dX9_stretchAt_22 : decode cX9_stretchAt 22 = .ok (.iload_n 1, 1) := by decide +kernel
theorem dX9_stretchAt_23 : decode cX9_stretchAt 23 = .ok (.aload_n 0, 1) := by decide +kernel
theorem dX9_stretchAt_24 : decode cX9_stretchAt 24 = .ok (.iload_n 3, 1) := by decide +kernel
theorem dX9_stretchAt_25 : decode cX9_stretchAt 25 = .ok (.invokevirtual 129, 3) := by decide +kernel
theorem dX9_stretchAt_28 : decode cX9_stretchAt 28 = .ok (.aload_n 0, 1) := by decide +kernel
theorem dX9_stretchAt_29 : decode cX9_stretchAt 29 = .ok (.getfield 13, 3) := by decide +kernel
theorem dX9_stretchAt_32 : decode cX9_stretchAt 32 = .ok (.iload_n 3, 1) := by decide +kernel
theorem dX9_stretchAt_33 : decode cX9_stretchAt 33 = .ok (.iaload, 1) := by decide +kernel
theorem dX9_stretchAt_34 : decode cX9_stretchAt 34 = .ok (.iadd, 1) := by decide +kernel
theorem dX9_stretchAt_35 : decode cX9_stretchAt 35 = .ok (.if_icmp .ge 7, 3) := by decide +kernel
theorem dX9_stretchAt_38 : decode cX9_stretchAt 38 = .ok (.iload_n 3, 1) := by decide +kernel
theorem dX9_stretchAt_39 : decode cX9_stretchAt 39 = .ok (.goto 4, 3) := by decide +kernel
theorem dX9_stretchAt_42 : decode cX9_stretchAt 42 = .ok (.iload_n 2, 1) := by decide +kernel
theorem dX9_stretchAt_43 : decode cX9_stretchAt 43 = .ok (.istore_n 2, 1) := by decide +kernel
theorem dX9_stretchAt_44 : decode cX9_stretchAt 44 = .ok (.iinc 3 1, 3) := by decide +kernel
theorem dX9_stretchAt_47 : decode cX9_stretchAt 47 = .ok (.goto (-42), 3) := by decide +kernel
theorem dX9_stretchAt_50 : decode cX9_stretchAt 50 = .ok (.iload_n 2, 1) := by decide +kernel
theorem dX9_stretchAt_51 : decode cX9_stretchAt 51 = .ok (.ireturn, 1) := by decide +kernel
theorem dX9_heal_0 : decode cX9_heal 0 = .ok (.iconst 0, 1) := by decide +kernel
theorem dX9_heal_1 : decode cX9_heal 1 = .ok (.istore_n 2, 1) := by decide +kernel
theorem dX9_heal_2 : decode cX9_heal 2 = .ok (.iload_n 2, 1) := by decide +kernel
theorem dX9_heal_3 : decode cX9_heal 3 = .ok (.aload_n 0, 1) := by decide +kernel
theorem dX9_heal_4 : decode cX9_heal 4 = .ok (.getfield 69, 3) := by decide +kernel
theorem dX9_heal_7 : decode cX9_heal 7 = .ok (.if_icmp .ge 40, 3) := by decide +kernel
theorem dX9_heal_10 : decode cX9_heal 10 = .ok (.aload_n 1, 1) := by decide +kernel
theorem dX9_heal_11 : decode cX9_heal 11 = .ok (.iconst 2, 1) := by decide +kernel
theorem dX9_heal_12 : decode cX9_heal 12 = .ok (.iload_n 2, 1) := by decide +kernel
theorem dX9_heal_13 : decode cX9_heal 13 = .ok (.iadd, 1) := by decide +kernel
theorem dX9_heal_14 : decode cX9_heal 14 = .ok (.dup2, 1) := by decide +kernel
theorem dX9_heal_15 : decode cX9_heal 15 = .ok (.iaload, 1) := by decide +kernel
theorem dX9_heal_16 : decode cX9_heal 16 = .ok (.aload_n 0, 1) := by decide +kernel
theorem dX9_heal_17 : decode cX9_heal 17 = .ok (.getfield 22, 3) := by decide +kernel
theorem dX9_heal_20 : decode cX9_heal 20 = .ok (.iload_n 2, 1) := by decide +kernel
theorem dX9_heal_21 : decode cX9_heal 21 = .ok (.iaload, 1) := by decide +kernel
theorem dX9_heal_22 : decode cX9_heal 22 = .ok (.iconst 3, 1) := by decide +kernel
theorem dX9_heal_23 : decode cX9_heal 23 = .ok (.if_icmp .eq 15, 3) := by decide +kernel
theorem dX9_heal_26 : decode cX9_heal 26 = .ok (.aload_n 1, 1) := by decide +kernel
theorem dX9_heal_27 : decode cX9_heal 27 = .ok (.iconst 2, 1) := by decide +kernel
theorem dX9_heal_28 : decode cX9_heal 28 = .ok (.iload_n 2, 1) := by decide +kernel
theorem dX9_heal_29 : decode cX9_heal 29 = .ok (.iadd, 1) := by decide +kernel
theorem dX9_heal_30 : decode cX9_heal 30 = .ok (.iaload, 1) := by decide +kernel
theorem dX9_heal_31 : decode cX9_heal 31 = .ok (.ifCond .le 7, 3) := by decide +kernel
theorem dX9_heal_34 : decode cX9_heal 34 = .ok (.iconst 1, 1) := by decide +kernel
theorem dX9_heal_35 : decode cX9_heal 35 = .ok (.goto 4, 3) := by decide +kernel
theorem dX9_heal_38 : decode cX9_heal 38 = .ok (.iconst 0, 1) := by decide +kernel
theorem dX9_heal_39 : decode cX9_heal 39 = .ok (.isub, 1) := by decide +kernel
theorem dX9_heal_40 : decode cX9_heal 40 = .ok (.iastore, 1) := by decide +kernel
theorem dX9_heal_41 : decode cX9_heal 41 = .ok (.iinc 2 1, 3) := by decide +kernel
theorem dX9_heal_44 : decode cX9_heal 44 = .ok (.goto (-42), 3) := by decide +kernel
theorem dX9_heal_47 : decode cX9_heal 47 = .ok (.return_, 1) := by decide +kernel
theorem dX9_prick_0 : decode cX9_prick 0 = .ok (.aload_n 0, 1) := by decide +kernel
theorem dX9_prick_1 : decode cX9_prick 1 = .ok (.iconst 2, 1) := by decide +kernel
theorem dX9_prick_2 : decode cX9_prick 2 = .ok (.iload_n 1, 1) := by decide +kernel
theorem dX9_prick_3 : decode cX9_prick 3 = .ok (.iadd, 1) := by decide +kernel
theorem dX9_prick_4 : decode cX9_prick 4 = .ok (.dup2, 1) := by decide +kernel
theorem dX9_prick_5 : decode cX9_prick 5 = .ok (.iaload, 1) := by decide +kernel
theorem dX9_prick_6 : decode cX9_prick 6 = .ok (.aload_n 0, 1) := by decide +kernel
theorem dX9_prick_7 : decode cX9_prick 7 = .ok (.iconst 2, 1) := by decide +kernel
theorem dX9_prick_8 : decode cX9_prick 8 = .ok (.iload_n 1, 1) := by decide +kernel
theorem dX9_prick_9 : decode cX9_prick 9 = .ok (.iadd, 1) := by decide +kernel
theorem dX9_prick_10 : decode cX9_prick 10 = .ok (.iaload, 1) := by decide +kernel
theorem dX9_prick_11 : decode cX9_prick 11 = .ok (.bipush 9, 2) := by decide +kernel
theorem dX9_prick_13 : decode cX9_prick 13 = .ok (.if_icmp .ge 7, 3) := by decide +kernel
theorem dX9_prick_16 : decode cX9_prick 16 = .ok (.iconst 1, 1) := by decide +kernel
theorem dX9_prick_17 : decode cX9_prick 17 = .ok (.goto 4, 3) := by decide +kernel
theorem dX9_prick_20 : decode cX9_prick 20 = .ok (.iconst 0, 1) := by decide +kernel
theorem dX9_prick_21 : decode cX9_prick 21 = .ok (.iadd, 1) := by decide +kernel
theorem dX9_prick_22 : decode cX9_prick 22 = .ok (.iastore, 1) := by decide +kernel
theorem dX9_prick_23 : decode cX9_prick 23 = .ok (.return_, 1) := by decide +kernel
theorem dX9_goDay_0 : decode cX9_goDay 0 = .ok (.aload_n 0, 1) := by decide +kernel
theorem dX9_goDay_1 : decode cX9_goDay 1 = .ok (.aload_n 1, 1) := by decide +kernel
theorem dX9_goDay_2 : decode cX9_goDay 2 = .ok (.iload_n 2, 1) := by decide +kernel
theorem dX9_goDay_3 : decode cX9_goDay 3 = .ok (.invokevirtual 133, 3) := by decide +kernel
theorem dX9_goDay_6 : decode cX9_goDay 6 = .ok (.istore_n 3, 1) := by decide +kernel
theorem dX9_goDay_7 : decode cX9_goDay 7 = .ok (.aload_n 0, 1) := by decide +kernel
theorem dX9_goDay_8 : decode cX9_goDay 8 = .ok (.aload_n 1, 1) := by decide +kernel
theorem dX9_goDay_9 : decode cX9_goDay 9 = .ok (.iconst 0, 1) := by decide +kernel
theorem dX9_goDay_10 : decode cX9_goDay 10 = .ok (.iaload, 1) := by decide +kernel
theorem dX9_goDay_11 : decode cX9_goDay 11 = .ok (.invokevirtual 136, 3) := by decide +kernel
theorem dX9_goDay_14 : decode cX9_goDay 14 = .ok (.istore 4, 2) := by decide +kernel
theorem dX9_goDay_16 : decode cX9_goDay 16 = .ok (.iconst 0, 1) := by decide +kernel
theorem dX9_goDay_17 : decode cX9_goDay 17 = .ok (.istore 5, 2) := by decide +kernel
theorem dX9_goDay_19 : decode cX9_goDay 19 = .ok (.iload_n 3, 1) := by decide +kernel
theorem dX9_goDay_20 : decode cX9_goDay 20 = .ok (.bipush (-9), 2) := by decide +kernel
theorem dX9_goDay_22 : decode cX9_goDay 22 = .ok (.if_icmp .eq 107, 3) := by decide +kernel
theorem dX9_goDay_25 : decode cX9_goDay 25 = .ok (.iload 4, 2) := by decide +kernel
theorem dX9_goDay_27 : decode cX9_goDay 27 = .ok (.bipush (-9), 2) := by decide +kernel
theorem dX9_goDay_29 : decode cX9_goDay 29 = .ok (.if_icmp .eq 100, 3) := by decide +kernel
theorem dX9_goDay_32 : decode cX9_goDay 32 = .ok (.aload_n 0, 1) := by decide +kernel
theorem dX9_goDay_33 : decode cX9_goDay 33 = .ok (.aload_n 1, 1) := by decide +kernel
theorem dX9_goDay_34 : decode cX9_goDay 34 = .ok (.iload_n 3, 1) := by decide +kernel
theorem dX9_goDay_35 : decode cX9_goDay 35 = .ok (.invokevirtual 125, 3) := by decide +kernel
theorem dX9_goDay_38 : decode cX9_goDay 38 = .ok (.istore 6, 2) := by decide +kernel
theorem dX9_goDay_40 : decode cX9_goDay 40 = .ok (.aload_n 0, 1) := by decide +kernel
theorem dX9_goDay_41 : decode cX9_goDay 41 = .ok (.getfield 16, 3) := by decide +kernel
theorem dX9_goDay_44 : decode cX9_goDay 44 = .ok (.iload 4, 2) := by decide +kernel
theorem dX9_goDay_46 : decode cX9_goDay 46 = .ok (.iaload, 1) := by decide +kernel
theorem dX9_goDay_47 : decode cX9_goDay 47 = .ok (.istore 7, 2) := by decide +kernel
theorem dX9_goDay_49 : decode cX9_goDay 49 = .ok (.iload 7, 2) := by decide +kernel
theorem dX9_goDay_51 : decode cX9_goDay 51 = .ok (.iconst 2, 1) := by decide +kernel
theorem dX9_goDay_52 : decode cX9_goDay 52 = .ok (.if_icmp .ne 7, 3) := by decide +kernel
theorem dX9_goDay_55 : decode cX9_goDay 55 = .ok (.iconst 1, 1) := by decide +kernel
theorem dX9_goDay_56 : decode cX9_goDay 56 = .ok (.goto 24, 3) := by decide +kernel
theorem dX9_goDay_59 : decode cX9_goDay 59 = .ok (.iload 7, 2) := by decide +kernel
theorem dX9_goDay_61 : decode cX9_goDay 61 = .ok (.iconst 1, 1) := by decide +kernel
theorem dX9_goDay_62 : decode cX9_goDay 62 = .ok (.if_icmp .ne 16, 3) := by decide +kernel
theorem dX9_goDay_65 : decode cX9_goDay 65 = .ok (.iload 6, 2) := by decide +kernel
theorem dX9_goDay_67 : decode cX9_goDay 67 = .ok (.iconst 1, 1) := by decide +kernel
theorem dX9_goDay_68 : decode cX9_goDay 68 = .ok (.if_icmp .le 10, 3) := by decide +kernel
theorem dX9_goDay_71 : decode cX9_goDay 71 = .ok (.iload 6, 2) := by decide +kernel
theorem dX9_goDay_73 : decode cX9_goDay 73 = .ok (.iconst 2, 1) := by decide +kernel
theorem dX9_goDay_74 : decode cX9_goDay 74 = .ok (.idiv, 1) := by decide +kernel
theorem dX9_goDay_75 : decode cX9_goDay 75 = .ok (.goto 5, 3) := by decide +kernel
theorem dX9_goDay_78 : decode cX9_goDay 78 = .ok (.iload 6, 2) := by decide +kernel
theorem dX9_goDay_80 : decode cX9_goDay 80 = .ok (.istore 5, 2) := by decide +kernel
theorem dX9_goDay_82 : decode cX9_goDay 82 = .ok (.aload_n 1, 1) := by decide +kernel
theorem dX9_goDay_83 : decode cX9_goDay 83 = .ok (.iconst 0, 1) := by decide +kernel
theorem dX9_goDay_84 : decode cX9_goDay 84 = .ok (.iaload, 1) := by decide +kernel
theorem dX9_goDay_85 : decode cX9_goDay 85 = .ok (.iload 5, 2) := by decide +kernel
theorem dX9_goDay_87 : decode cX9_goDay 87 = .ok (.iadd, 1) := by decide +kernel
theorem dX9_goDay_88 : decode cX9_goDay 88 = .ok (.aload_n 0, 1) := by decide +kernel
theorem dX9_goDay_89 : decode cX9_goDay 89 = .ok (.getfield 111, 3) := by decide +kernel
theorem dX9_goDay_92 : decode cX9_goDay 92 = .ok (.if_icmp .le 14, 3) := by decide +kernel
theorem dX9_goDay_95 : decode cX9_goDay 95 = .ok (.aload_n 0, 1) := by decide +kernel
theorem dX9_goDay_96 : decode cX9_goDay 96 = .ok (.getfield 111, 3) := by decide +kernel
theorem dX9_goDay_99 : decode cX9_goDay 99 = .ok (.aload_n 1, 1) := by decide +kernel
theorem dX9_goDay_100 : decode cX9_goDay 100 = .ok (.iconst 0, 1) := by decide +kernel
theorem dX9_goDay_101 : decode cX9_goDay 101 = .ok (.iaload, 1) := by decide +kernel
theorem dX9_goDay_102 : decode cX9_goDay 102 = .ok (.isub, 1) := by decide +kernel
theorem dX9_goDay_103 : decode cX9_goDay 103 = .ok (.goto 5, 3) := by decide +kernel
theorem dX9_goDay_106 : decode cX9_goDay 106 = .ok (.iload 5, 2) := by decide +kernel
theorem dX9_goDay_108 : decode cX9_goDay 108 = .ok (.istore 5, 2) := by decide +kernel
theorem dX9_goDay_110 : decode cX9_goDay 110 = .ok (.aload_n 1, 1) := by decide +kernel
theorem dX9_goDay_111 : decode cX9_goDay 111 = .ok (.iconst 0, 1) := by decide +kernel
theorem dX9_goDay_112 : decode cX9_goDay 112 = .ok (.dup2, 1) := by decide +kernel
theorem dX9_goDay_113 : decode cX9_goDay 113 = .ok (.iaload, 1) := by decide +kernel
theorem dX9_goDay_114 : decode cX9_goDay 114 = .ok (.iload 5, 2) := by decide +kernel
theorem dX9_goDay_116 : decode cX9_goDay 116 = .ok (.iadd, 1) := by decide +kernel
theorem dX9_goDay_117 : decode cX9_goDay 117 = .ok (.iastore, 1) := by decide +kernel
theorem dX9_goDay_118 : decode cX9_goDay 118 = .ok (.iload 7, 2) := by decide +kernel
theorem dX9_goDay_120 : decode cX9_goDay 120 = .ok (.iconst 3, 1) := by decide +kernel
theorem dX9_goDay_121 : decode cX9_goDay 121 = .ok (.if_icmp .ne 8, 3) := by decide +kernel
theorem dX9_goDay_124 : decode cX9_goDay 124 = .ok (.aload_n 1, 1) := by decide +kernel
theorem dX9_goDay_125 : decode cX9_goDay 125 = .ok (.iload_n 3, 1) := by decide +kernel
theorem dX9_goDay_126 : decode cX9_goDay 126 = .ok (.invokestatic 139, 3) := by decide +kernel
theorem dX9_goDay_129 : decode cX9_goDay 129 = .ok (.aload_n 1, 1) := by decide +kernel
theorem dX9_goDay_130 : decode cX9_goDay 130 = .ok (.iconst 1, 1) := by decide +kernel
theorem dX9_goDay_131 : decode cX9_goDay 131 = .ok (.iaload, 1) := by decide +kernel
theorem dX9_goDay_132 : decode cX9_goDay 132 = .ok (.iconst 3, 1) := by decide +kernel
theorem dX9_goDay_133 : decode cX9_goDay 133 = .ok (.irem, 1) := by decide +kernel
theorem dX9_goDay_134 : decode cX9_goDay 134 = .ok (.iconst 2, 1) := by decide +kernel
theorem dX9_goDay_135 : decode cX9_goDay 135 = .ok (.if_icmp .ne 8, 3) := by decide +kernel
theorem dX9_goDay_138 : decode cX9_goDay 138 = .ok (.aload_n 0, 1) := by decide +kernel
theorem dX9_goDay_139 : decode cX9_goDay 139 = .ok (.aload_n 1, 1) := by decide +kernel
theorem dX9_goDay_140 : decode cX9_goDay 140 = .ok (.invokevirtual 143, 3) := by decide +kernel
theorem dX9_goDay_143 : decode cX9_goDay 143 = .ok (.aload_n 1, 1) := by decide +kernel
theorem dX9_goDay_144 : decode cX9_goDay 144 = .ok (.iconst 1, 1) := by decide +kernel
theorem dX9_goDay_145 : decode cX9_goDay 145 = .ok (.dup2, 1) := by decide +kernel
theorem dX9_goDay_146 : decode cX9_goDay 146 = .ok (.iaload, 1) := by decide +kernel
theorem dX9_goDay_147 : decode cX9_goDay 147 = .ok (.iconst 1, 1) := by decide +kernel
theorem dX9_goDay_148 : decode cX9_goDay 148 = .ok (.iadd, 1) := by decide +kernel
theorem dX9_goDay_149 : decode cX9_goDay 149 = .ok (.iastore, 1) := by decide +kernel
theorem dX9_goDay_150 : decode cX9_goDay 150 = .ok (.iload 5, 2) := by decide +kernel
theorem dX9_goDay_152 : decode cX9_goDay 152 = .ok (.ireturn, 1) := by decide +kernel
theorem dX9_allThorns_0 : decode cX9_allThorns 0 = .ok (.aload_n 0, 1) := by decide +kernel
theorem dX9_allThorns_1 : decode cX9_allThorns 1 = .ok (.iconst 2, 1) := by decide +kernel
theorem dX9_allThorns_2 : decode cX9_allThorns 2 = .ok (.iaload, 1) := by decide +kernel
theorem dX9_allThorns_3 : decode cX9_allThorns 3 = .ok (.aload_n 0, 1) := by decide +kernel
theorem dX9_allThorns_4 : decode cX9_allThorns 4 = .ok (.iconst 3, 1) := by decide +kernel
theorem dX9_allThorns_5 : decode cX9_allThorns 5 = .ok (.iaload, 1) := by decide +kernel
theorem dX9_allThorns_6 : decode cX9_allThorns 6 = .ok (.iadd, 1) := by decide +kernel
theorem dX9_allThorns_7 : decode cX9_allThorns 7 = .ok (.aload_n 0, 1) := by decide +kernel
theorem dX9_allThorns_8 : decode cX9_allThorns 8 = .ok (.iconst 4, 1) := by decide +kernel
theorem dX9_allThorns_9 : decode cX9_allThorns 9 = .ok (.iaload, 1) := by decide +kernel
theorem dX9_allThorns_10 : decode cX9_allThorns 10 = .ok (.iadd, 1) := by decide +kernel
theorem dX9_allThorns_11 : decode cX9_allThorns 11 = .ok (.aload_n 0, 1) := by decide +kernel
theorem dX9_allThorns_12 : decode cX9_allThorns 12 = .ok (.iconst 5, 1) := by decide +kernel
theorem dX9_allThorns_13 : decode cX9_allThorns 13 = .ok (.iaload, 1) := by decide +kernel
theorem dX9_allThorns_14 : decode cX9_allThorns 14 = .ok (.iadd, 1) := by decide +kernel
theorem dX9_allThorns_15 : decode cX9_allThorns 15 = .ok (.aload_n 0, 1) := by decide +kernel
theorem dX9_allThorns_16 : decode cX9_allThorns 16 = .ok (.bipush 6, 2) := by decide +kernel
theorem dX9_allThorns_18 : decode cX9_allThorns 18 = .ok (.iaload, 1) := by decide +kernel
theorem dX9_allThorns_19 : decode cX9_allThorns 19 = .ok (.iadd, 1) := by decide +kernel
theorem dX9_allThorns_20 : decode cX9_allThorns 20 = .ok (.ireturn, 1) := by decide +kernel
theorem dX9_goHalt_0 : decode cX9_goHalt 0 = .ok (.aload_n 0, 1) := by decide +kernel
theorem dX9_goHalt_1 : decode cX9_goHalt 1 = .ok (.aload_n 1, 1) := by decide +kernel
theorem dX9_goHalt_2 : decode cX9_goHalt 2 = .ok (.invokevirtual 143, 3) := by decide +kernel
theorem dX9_goHalt_5 : decode cX9_goHalt 5 = .ok (.aload_n 1, 1) := by decide +kernel
theorem dX9_goHalt_6 : decode cX9_goHalt 6 = .ok (.iconst 1, 1) := by decide +kernel
theorem dX9_goHalt_7 : decode cX9_goHalt 7 = .ok (.dup2, 1) := by decide +kernel
theorem dX9_goHalt_8 : decode cX9_goHalt 8 = .ok (.iaload, 1) := by decide +kernel
theorem dX9_goHalt_9 : decode cX9_goHalt 9 = .ok (.iconst 1, 1) := by decide +kernel
theorem dX9_goHalt_10 : decode cX9_goHalt 10 = .ok (.iadd, 1) := by decide +kernel
theorem dX9_goHalt_11 : decode cX9_goHalt 11 = .ok (.iastore, 1) := by decide +kernel
theorem dX9_goHalt_12 : decode cX9_goHalt 12 = .ok (.aload_n 1, 1) := by decide +kernel
theorem dX9_goHalt_13 : decode cX9_goHalt 13 = .ok (.invokestatic 147, 3) := by decide +kernel
theorem dX9_goHalt_16 : decode cX9_goHalt 16 = .ok (.ireturn, 1) := by decide +kernel
theorem dX9_about_0 : decode cX9_about 0 = .ok (.aload_n 0, 1) := by decide +kernel
theorem dX9_about_1 : decode cX9_about 1 = .ok (.iconst 0, 1) := by decide +kernel
theorem dX9_about_2 : decode cX9_about 2 = .ok (.putfield 65, 3) := by decide +kernel
theorem dX9_about_5 : decode cX9_about 5 = .ok (.aload_n 0, 1) := by decide +kernel
theorem dX9_about_6 : decode cX9_about 6 = .ok (.aload_n 0, 1) := by decide +kernel
theorem dX9_about_7 : decode cX9_about 7 = .ok (.getfield 31, 3) := by decide +kernel
theorem dX9_about_10 : decode cX9_about 10 = .ok (.bipush 31, 2) := by decide +kernel
theorem dX9_about_12 : decode cX9_about 12 = .ok (.invokevirtual 133, 3) := by decide +kernel
theorem dX9_about_15 : decode cX9_about 15 = .ok (.istore_n 2, 1) := by decide +kernel
theorem dX9_about_16 : decode cX9_about 16 = .ok (.iload_n 1, 1) := by decide +kernel
theorem dX9_about_17 : decode cX9_about 17 = .ok (.tableswitch 148 0 11 #[63, 68, 73, 78, 85, 92, 94, 114, 125, 133, 138, 143], 63) := by decide +kernel
theorem dX9_about_80 : decode cX9_about 80 = .ok (.aload_n 0, 1) := by decide +kernel
theorem dX9_about_81 : decode cX9_about 81 = .ok (.getfield 108, 3) := by decide +kernel
theorem dX9_about_84 : decode cX9_about 84 = .ok (.ireturn, 1) := by decide +kernel
theorem dX9_about_85 : decode cX9_about 85 = .ok (.aload_n 0, 1) := by decide +kernel
theorem dX9_about_86 : decode cX9_about 86 = .ok (.getfield 69, 3) := by decide +kernel
theorem dX9_about_89 : decode cX9_about 89 = .ok (.ireturn, 1) := by decide +kernel
theorem dX9_about_90 : decode cX9_about 90 = .ok (.aload_n 0, 1) := by decide +kernel
theorem dX9_about_91 : decode cX9_about 91 = .ok (.getfield 111, 3) := by decide +kernel
theorem dX9_about_94 : decode cX9_about 94 = .ok (.ireturn, 1) := by decide +kernel
theorem dX9_about_95 : decode cX9_about 95 = .ok (.aload_n 0, 1) := by decide +kernel
theorem dX9_about_96 : decode cX9_about 96 = .ok (.getfield 31, 3) := by decide +kernel
theorem dX9_about_99 : decode cX9_about 99 = .ok (.iconst 0, 1) := by decide +kernel
theorem dX9_about_100 : decode cX9_about 100 = .ok (.iaload, 1) := by decide +kernel
theorem dX9_about_101 : decode cX9_about 101 = .ok (.ireturn, 1) := by decide +kernel
theorem dX9_about_102 : decode cX9_about 102 = .ok (.aload_n 0, 1) := by decide +kernel
theorem dX9_about_103 : decode cX9_about 103 = .ok (.getfield 31, 3) := by decide +kernel
theorem dX9_about_106 : decode cX9_about 106 = .ok (.iconst 1, 1) := by decide +kernel
theorem dX9_about_107 : decode cX9_about 107 = .ok (.iaload, 1) := by decide +kernel
theorem dX9_about_108 : decode cX9_about 108 = .ok (.ireturn, 1) := by decide +kernel
theorem dX9_about_109 : decode cX9_about 109 = .ok (.iload_n 2, 1) := by decide +kernel
theorem dX9_about_110 : decode cX9_about 110 = .ok (.ireturn, 1) := by decide +kernel
theorem dX9_about_111 : decode cX9_about 111 = .ok (.iload_n 2, 1) := by decide +kernel
theorem dX9_about_112 : decode cX9_about 112 = .ok (.bipush (-9), 2) := by decide +kernel
theorem dX9_about_114 : decode cX9_about 114 = .ok (.if_icmp .ne 7, 3) := by decide +kernel
theorem dX9_about_117 : decode cX9_about 117 = .ok (.iconst 0, 1) := by decide +kernel
theorem dX9_about_118 : decode cX9_about 118 = .ok (.goto 12, 3) := by decide +kernel
theorem dX9_about_121 : decode cX9_about 121 = .ok (.aload_n 0, 1) := by decide +kernel
theorem dX9_about_122 : decode cX9_about 122 = .ok (.aload_n 0, 1) := by decide +kernel
theorem dX9_about_123 : decode cX9_about 123 = .ok (.getfield 31, 3) := by decide +kernel
theorem dX9_about_126 : decode cX9_about 126 = .ok (.iload_n 2, 1) := by decide +kernel
theorem dX9_about_127 : decode cX9_about 127 = .ok (.invokevirtual 125, 3) := by decide +kernel
theorem dX9_about_130 : decode cX9_about 130 = .ok (.ireturn, 1) := by decide +kernel
theorem dX9_about_131 : decode cX9_about 131 = .ok (.aload_n 0, 1) := by decide +kernel
theorem dX9_about_132 : decode cX9_about 132 = .ok (.aload_n 0, 1) := by decide +kernel
theorem dX9_about_133 : decode cX9_about 133 = .ok (.getfield 31, 3) := by decide +kernel
theorem dX9_about_136 : decode cX9_about 136 = .ok (.iconst 0, 1) := by decide +kernel
theorem dX9_about_137 : decode cX9_about 137 = .ok (.iaload, 1) := by decide +kernel
theorem dX9_about_138 : decode cX9_about 138 = .ok (.invokevirtual 136, 3) := by decide +kernel
theorem dX9_about_141 : decode cX9_about 141 = .ok (.ireturn, 1) := by decide +kernel
theorem dX9_about_142 : decode cX9_about 142 = .ok (.aload_n 0, 1) := by decide +kernel
theorem dX9_about_143 : decode cX9_about 143 = .ok (.getfield 31, 3) := by decide +kernel
theorem dX9_about_146 : decode cX9_about 146 = .ok (.invokestatic 147, 3) := by decide +kernel
theorem dX9_about_149 : decode cX9_about 149 = .ok (.ireturn, 1) := by decide +kernel
theorem dX9_about_150 : decode cX9_about 150 = .ok (.aload_n 0, 1) := by decide +kernel
theorem dX9_about_151 : decode cX9_about 151 = .ok (.getfield 114, 3) := by decide +kernel
theorem dX9_about_154 : decode cX9_about 154 = .ok (.ireturn, 1) := by decide +kernel
theorem dX9_about_155 : decode cX9_about 155 = .ok (.aload_n 0, 1) := by decide +kernel
theorem dX9_about_156 : decode cX9_about 156 = .ok (.getfield 151, 3) := by decide +kernel
theorem dX9_about_159 : decode cX9_about 159 = .ok (.ireturn, 1) := by decide +kernel
theorem dX9_about_160 : decode cX9_about 160 = .ok (.aload_n 0, 1) := by decide +kernel
theorem dX9_about_161 : decode cX9_about 161 = .ok (.getfield 78, 3) := by decide +kernel
theorem dX9_about_164 : decode cX9_about 164 = .ok (.ireturn, 1) := by decide +kernel
theorem dX9_about_165 : decode cX9_about 165 = .ok (.bipush (-2), 2) := by decide +kernel
theorem dX9_about_167 : decode cX9_about 167 = .ok (.ireturn, 1) := by decide +kernel
theorem dX9_man_0 : decode cX9_man 0 = .ok (.aload_n 0, 1) := by decide +kernel
theorem dX9_man_1 : decode cX9_man 1 = .ok (.iconst 0, 1) := by decide +kernel
theorem dX9_man_2 : decode cX9_man 2 = .ok (.putfield 65, 3) := by decide +kernel
theorem dX9_man_5 : decode cX9_man 5 = .ok (.aload_n 0, 1) := by decide +kernel
theorem dX9_man_6 : decode cX9_man 6 = .ok (.iload_n 1, 1) := by decide +kernel
theorem dX9_man_7 : decode cX9_man 7 = .ok (.invokevirtual 154, 3) := by decide +kernel
theorem dX9_man_10 : decode cX9_man 10 = .ok (.ifCond .eq 5, 3) := by decide +kernel
theorem dX9_man_13 : decode cX9_man 13 = .ok (.iconst (-1), 1) := by decide +kernel
theorem dX9_man_14 : decode cX9_man 14 = .ok (.ireturn, 1) := by decide +kernel
theorem dX9_man_15 : decode cX9_man 15 = .ok (.iload_n 2, 1) := by decide +kernel
theorem dX9_man_16 : decode cX9_man 16 = .ok (.tableswitch 65 0 3 #[32, 39, 46, 55], 32) := by decide +kernel
theorem dX9_man_48 : decode cX9_man 48 = .ok (.aload_n 0, 1) := by decide +kernel
theorem dX9_man_49 : decode cX9_man 49 = .ok (.getfield 19, 3) := by decide +kernel
theorem dX9_man_52 : decode cX9_man 52 = .ok (.iload_n 1, 1) := by decide +kernel
theorem dX9_man_53 : decode cX9_man 53 = .ok (.iaload, 1) := by decide +kernel
theorem dX9_man_54 : decode cX9_man 54 = .ok (.ireturn, 1) := by decide +kernel
theorem dX9_man_55 : decode cX9_man 55 = .ok (.aload_n 0, 1) := by decide +kernel
theorem dX9_man_56 : decode cX9_man 56 = .ok (.getfield 22, 3) := by decide +kernel
theorem dX9_man_59 : decode cX9_man 59 = .ok (.iload_n 1, 1) := by decide +kernel
theorem dX9_man_60 : decode cX9_man 60 = .ok (.iaload, 1) := by decide +kernel
theorem dX9_man_61 : decode cX9_man 61 = .ok (.ireturn, 1) := by decide +kernel
theorem dX9_man_62 : decode cX9_man 62 = .ok (.aload_n 0, 1) := by decide +kernel
theorem dX9_man_63 : decode cX9_man 63 = .ok (.getfield 31, 3) := by decide +kernel
theorem dX9_man_66 : decode cX9_man 66 = .ok (.iconst 2, 1) := by decide +kernel
theorem dX9_man_67 : decode cX9_man 67 = .ok (.iload_n 1, 1) := by decide +kernel
theorem dX9_man_68 : decode cX9_man 68 = .ok (.iadd, 1) := by decide +kernel
theorem dX9_man_69 : decode cX9_man 69 = .ok (.iaload, 1) := by decide +kernel
theorem dX9_man_70 : decode cX9_man 70 = .ok (.ireturn, 1) := by decide +kernel
theorem dX9_man_71 : decode cX9_man 71 = .ok (.aload_n 0, 1) := by decide +kernel
theorem dX9_man_72 : decode cX9_man 72 = .ok (.aload_n 0, 1) := by decide +kernel
theorem dX9_man_73 : decode cX9_man 73 = .ok (.getfield 31, 3) := by decide +kernel
theorem dX9_man_76 : decode cX9_man 76 = .ok (.iload_n 1, 1) := by decide +kernel
theorem dX9_man_77 : decode cX9_man 77 = .ok (.invokevirtual 125, 3) := by decide +kernel
theorem dX9_man_80 : decode cX9_man 80 = .ok (.ireturn, 1) := by decide +kernel
theorem dX9_man_81 : decode cX9_man 81 = .ok (.bipush (-2), 2) := by decide +kernel
theorem dX9_man_83 : decode cX9_man 83 = .ok (.ireturn, 1) := by decide +kernel
theorem dX9_stretch_0 : decode cX9_stretch 0 = .ok (.aload_n 0, 1) := by decide +kernel
theorem dX9_stretch_1 : decode cX9_stretch 1 = .ok (.iconst 0, 1) := by decide +kernel
theorem dX9_stretch_2 : decode cX9_stretch 2 = .ok (.putfield 65, 3) := by decide +kernel
theorem dX9_stretch_5 : decode cX9_stretch 5 = .ok (.iload_n 1, 1) := by decide +kernel
theorem dX9_stretch_6 : decode cX9_stretch 6 = .ok (.i2l, 1) := by decide +kernel
theorem dX9_stretch_7 : decode cX9_stretch 7 = .ok (.lconst 0, 1) := by decide +kernel
theorem dX9_stretch_8 : decode cX9_stretch 8 = .ok (.aload_n 0, 1) := by decide +kernel
theorem dX9_stretch_9 : decode cX9_stretch 9 = .ok (.getfield 108, 3) := by decide +kernel
theorem dX9_stretch_12 : decode cX9_stretch 12 = .ok (.iconst 1, 1) := by decide +kernel
theorem dX9_stretch_13 : decode cX9_stretch 13 = .ok (.isub, 1) := by decide +kernel
theorem dX9_stretch_14 : decode cX9_stretch 14 = .ok (.i2l, 1) := by decide +kernel
theorem dX9_stretch_15 : decode cX9_stretch 15 = .ok (.invokestatic 72, 3) := by decide +kernel
theorem dX9_stretch_18 : decode cX9_stretch 18 = .ok (.ifCond .ne 5, 3) := by decide +kernel
theorem dX9_stretch_21 : decode cX9_stretch 21 = .ok (.iconst (-1), 1) := by decide +kernel
theorem dX9_stretch_22 : decode cX9_stretch 22 = .ok (.ireturn, 1) := by decide +kernel
theorem dX9_stretch_23 : decode cX9_stretch 23 = .ok (.iload_n 2, 1) := by decide +kernel
theorem dX9_stretch_24 : decode cX9_stretch 24 = .ok (.tableswitch 48 0 2 #[28, 35, 42], 28) := by decide +kernel
theorem dX9_stretch_52 : decode cX9_stretch 52 = .ok (.aload_n 0, 1) := by decide +kernel
theorem dX9_stretch_53 : decode cX9_stretch 53 = .ok (.getfield 13, 3) := by decide +kernel
theorem dX9_stretch_56 : decode cX9_stretch 56 = .ok (.iload_n 1, 1) := by decide +kernel
theorem dX9_stretch_57 : decode cX9_stretch 57 = .ok (.iaload, 1) := by decide +kernel
theorem dX9_stretch_58 : decode cX9_stretch 58 = .ok (.ireturn, 1) := by decide +kernel
theorem dX9_stretch_59 : decode cX9_stretch 59 = .ok (.aload_n 0, 1) := by decide +kernel
theorem dX9_stretch_60 : decode cX9_stretch 60 = .ok (.getfield 16, 3) := by decide +kernel
theorem dX9_stretch_63 : decode cX9_stretch 63 = .ok (.iload_n 1, 1) := by decide +kernel
theorem dX9_stretch_64 : decode cX9_stretch 64 = .ok (.iaload, 1) := by decide +kernel
theorem dX9_stretch_65 : decode cX9_stretch 65 = .ok (.ireturn, 1) := by decide +kernel
theorem dX9_stretch_66 : decode cX9_stretch 66 = .ok (.aload_n 0, 1) := by decide +kernel
theorem dX9_stretch_67 : decode cX9_stretch 67 = .ok (.iload_n 1, 1) := by decide +kernel
theorem dX9_stretch_68 : decode cX9_stretch 68 = .ok (.invokevirtual 129, 3) := by decide +kernel
theorem dX9_stretch_71 : decode cX9_stretch 71 = .ok (.ireturn, 1) := by decide +kernel
theorem dX9_stretch_72 : decode cX9_stretch 72 = .ok (.bipush (-2), 2) := by decide +kernel
theorem dX9_stretch_74 : decode cX9_stretch 74 = .ok (.ireturn, 1) := by decide +kernel
theorem dX9_note_0 : decode cX9_note 0 = .ok (.aload_n 0, 1) := by decide +kernel
theorem dX9_note_1 : decode cX9_note 1 = .ok (.getfield 114, 3) := by decide +kernel
theorem dX9_note_4 : decode cX9_note 4 = .ok (.bipush 14, 2) := by decide +kernel
theorem dX9_note_6 : decode cX9_note 6 = .ok (.if_icmp .ne 42, 3) := by decide +kernel
theorem dX9_note_9 : decode cX9_note 9 = .ok (.iconst 0, 1) := by decide +kernel
theorem dX9_note_10 : decode cX9_note 10 = .ok (.istore_n 1, 1) := by decide +kernel
theorem dX9_note_11 : decode cX9_note 11 = .ok (.iload_n 1, 1) := by decide +kernel
theorem dX9_note_12 : decode cX9_note 12 = .ok (.bipush 91, 2) := by decide +kernel
theorem dX9_note_14 : decode cX9_note 14 = .ok (.if_icmp .ge 24, 3) := by decide +kernel
theorem dX9_note_17 : decode cX9_note 17 = .ok (.aload_n 0, 1) := by decide +kernel
theorem dX9_note_18 : decode cX9_note 18 = .ok (.getfield 40, 3) := by decide +kernel
theorem dX9_note_21 : decode cX9_note 21 = .ok (.iload_n 1, 1) := by decide +kernel
theorem dX9_note_22 : decode cX9_note 22 = .ok (.aload_n 0, 1) := by decide +kernel
theorem dX9_note_23 : decode cX9_note 23 = .ok (.getfield 40, 3) := by decide +kernel
theorem dX9_note_26 : decode cX9_note 26 = .ok (.iload_n 1, 1) := by decide +kernel
theorem dX9_note_27 : decode cX9_note 27 = .ok (.bipush 7, 2) := by decide +kernel
theorem dX9_note_29 : decode cX9_note 29 = .ok (.iadd, 1) := by decide +kernel
theorem dX9_note_30 : decode cX9_note 30 = .ok (.iaload, 1) := by decide +kernel
theorem dX9_note_31 : decode cX9_note 31 = .ok (.iastore, 1) := by decide +kernel
theorem dX9_note_32 : decode cX9_note 32 = .ok (.iinc 1 1, 3) := by decide +kernel
theorem dX9_note_35 : decode cX9_note 35 = .ok (.goto (-24), 3) := by decide +kernel
theorem dX9_note_38 : decode cX9_note 38 = .ok (.aload_n 0, 1) := by decide +kernel
theorem dX9_note_39 : decode cX9_note 39 = .ok (.dup, 1) := by decide +kernel
theorem dX9_note_40 : decode cX9_note 40 = .ok (.getfield 114, 3) := by decide +kernel
theorem dX9_note_43 : decode cX9_note 43 = .ok (.iconst 1, 1) := by decide +kernel
theorem dX9_note_44 : decode cX9_note 44 = .ok (.isub, 1) := by decide +kernel
theorem dX9_note_45 : decode cX9_note 45 = .ok (.putfield 114, 3) := by decide +kernel
theorem dX9_note_48 : decode cX9_note 48 = .ok (.iconst 0, 1) := by decide +kernel
theorem dX9_note_49 : decode cX9_note 49 = .ok (.istore_n 1, 1) := by decide +kernel
theorem dX9_note_50 : decode cX9_note 50 = .ok (.iload_n 1, 1) := by decide +kernel
theorem dX9_note_51 : decode cX9_note 51 = .ok (.bipush 7, 2) := by decide +kernel
theorem dX9_note_53 : decode cX9_note 53 = .ok (.if_icmp .ge 29, 3) := by decide +kernel
theorem dX9_note_56 : decode cX9_note 56 = .ok (.aload_n 0, 1) := by decide +kernel
theorem dX9_note_57 : decode cX9_note 57 = .ok (.getfield 40, 3) := by decide +kernel
theorem dX9_note_60 : decode cX9_note 60 = .ok (.bipush 7, 2) := by decide +kernel
theorem dX9_note_62 : decode cX9_note 62 = .ok (.aload_n 0, 1) := by decide +kernel
theorem dX9_note_63 : decode cX9_note 63 = .ok (.getfield 114, 3) := by decide +kernel
theorem dX9_note_66 : decode cX9_note 66 = .ok (.imul, 1) := by decide +kernel
theorem dX9_note_67 : decode cX9_note 67 = .ok (.iload_n 1, 1) := by decide +kernel
theorem dX9_note_68 : decode cX9_note 68 = .ok (.iadd, 1) := by decide +kernel
theorem dX9_note_69 : decode cX9_note 69 = .ok (.aload_n 0, 1) := by decide +kernel
theorem dX9_note_70 : decode cX9_note 70 = .ok (.getfield 31, 3) := by decide +kernel
theorem dX9_note_73 : decode cX9_note 73 = .ok (.iload_n 1, 1) := by decide +kernel
theorem dX9_note_74 : decode cX9_note 74 = .ok (.iaload, 1) := by decide +kernel
theorem dX9_note_75 : decode cX9_note 75 = .ok (.iastore, 1) := by decide +kernel
theorem dX9_note_76 : decode cX9_note 76 = .ok (.iinc 1 1, 3) := by decide +kernel
theorem dX9_note_79 : decode cX9_note 79 = .ok (.goto (-29), 3) := by decide +kernel
theorem dX9_note_82 : decode cX9_note 82 = .ok (.aload_n 0, 1) := by decide +kernel
theorem dX9_note_83 : decode cX9_note 83 = .ok (.dup, 1) := by decide +kernel
theorem dX9_note_84 : decode cX9_note 84 = .ok (.getfield 114, 3) := by decide +kernel
theorem dX9_note_87 : decode cX9_note 87 = .ok (.iconst 1, 1) := by decide +kernel
theorem dX9_note_88 : decode cX9_note 88 = .ok (.iadd, 1) := by decide +kernel
theorem dX9_note_89 : decode cX9_note 89 = .ok (.putfield 114, 3) := by decide +kernel
theorem dX9_note_92 : decode cX9_note 92 = .ok (.return_, 1) := by decide +kernel
theorem dX9_day_0 : decode cX9_day 0 = .ok (.aload_n 0, 1) := by decide +kernel
theorem dX9_day_1 : decode cX9_day 1 = .ok (.iconst 0, 1) := by decide +kernel
theorem dX9_day_2 : decode cX9_day 2 = .ok (.putfield 65, 3) := by decide +kernel
theorem dX9_day_5 : decode cX9_day 5 = .ok (.aload_n 0, 1) := by decide +kernel
theorem dX9_day_6 : decode cX9_day 6 = .ok (.invokevirtual 158, 3) := by decide +kernel
theorem dX9_day_9 : decode cX9_day 9 = .ok (.aload_n 0, 1) := by decide +kernel
theorem dX9_day_10 : decode cX9_day 10 = .ok (.aload_n 0, 1) := by decide +kernel
theorem dX9_day_11 : decode cX9_day 11 = .ok (.getfield 31, 3) := by decide +kernel
theorem dX9_day_14 : decode cX9_day 14 = .ok (.bipush 31, 2) := by decide +kernel
theorem dX9_day_16 : decode cX9_day 16 = .ok (.invokevirtual 161, 3) := by decide +kernel
theorem dX9_day_19 : decode cX9_day 19 = .ok (.ireturn, 1) := by decide +kernel
theorem dX9_halt_0 : decode cX9_halt 0 = .ok (.aload_n 0, 1) := by decide +kernel
theorem dX9_halt_1 : decode cX9_halt 1 = .ok (.iconst 0, 1) := by decide +kernel
theorem dX9_halt_2 : decode cX9_halt 2 = .ok (.putfield 65, 3) := by decide +kernel
theorem dX9_halt_5 : decode cX9_halt 5 = .ok (.aload_n 0, 1) := by decide +kernel
theorem dX9_halt_6 : decode cX9_halt 6 = .ok (.invokevirtual 158, 3) := by decide +kernel
theorem dX9_halt_9 : decode cX9_halt 9 = .ok (.aload_n 0, 1) := by decide +kernel
theorem dX9_halt_10 : decode cX9_halt 10 = .ok (.aload_n 0, 1) := by decide +kernel
theorem dX9_halt_11 : decode cX9_halt 11 = .ok (.getfield 31, 3) := by decide +kernel
theorem dX9_halt_14 : decode cX9_halt 14 = .ok (.invokevirtual 164, 3) := by decide +kernel
theorem dX9_halt_17 : decode cX9_halt 17 = .ok (.ireturn, 1) := by decide +kernel
theorem dX9_gravel_0 : decode cX9_gravel 0 = .ok (.aload_n 0, 1) := by decide +kernel
theorem dX9_gravel_1 : decode cX9_gravel 1 = .ok (.iconst 0, 1) := by decide +kernel
theorem dX9_gravel_2 : decode cX9_gravel 2 = .ok (.putfield 65, 3) := by decide +kernel
theorem dX9_gravel_5 : decode cX9_gravel 5 = .ok (.aload_n 0, 1) := by decide +kernel
theorem dX9_gravel_6 : decode cX9_gravel 6 = .ok (.iload_n 1, 1) := by decide +kernel
theorem dX9_gravel_7 : decode cX9_gravel 7 = .ok (.invokevirtual 154, 3) := by decide +kernel
theorem dX9_gravel_10 : decode cX9_gravel 10 = .ok (.ifCond .eq 5, 3) := by decide +kernel
theorem dX9_gravel_13 : decode cX9_gravel 13 = .ok (.iconst (-1), 1) := by decide +kernel
theorem dX9_gravel_14 : decode cX9_gravel 14 = .ok (.ireturn, 1) := by decide +kernel
theorem dX9_gravel_15 : decode cX9_gravel 15 = .ok (.aload_n 0, 1) := by decide +kernel
theorem dX9_gravel_16 : decode cX9_gravel 16 = .ok (.getfield 31, 3) := by decide +kernel
theorem dX9_gravel_19 : decode cX9_gravel 19 = .ok (.iconst 2, 1) := by decide +kernel
theorem dX9_gravel_20 : decode cX9_gravel 20 = .ok (.iload_n 1, 1) := by decide +kernel
theorem dX9_gravel_21 : decode cX9_gravel 21 = .ok (.iadd, 1) := by decide +kernel
theorem dX9_gravel_22 : decode cX9_gravel 22 = .ok (.iaload, 1) := by decide +kernel
theorem dX9_gravel_23 : decode cX9_gravel 23 = .ok (.bipush 9, 2) := by decide +kernel
theorem dX9_gravel_25 : decode cX9_gravel 25 = .ok (.if_icmp .ne 6, 3) := by decide +kernel
theorem dX9_gravel_28 : decode cX9_gravel 28 = .ok (.bipush (-4), 2) := by decide +kernel
theorem dX9_gravel_30 : decode cX9_gravel 30 = .ok (.ireturn, 1) := by decide +kernel
theorem dX9_gravel_31 : decode cX9_gravel 31 = .ok (.aload_n 0, 1) := by decide +kernel
theorem dX9_gravel_32 : decode cX9_gravel 32 = .ok (.invokevirtual 158, 3) := by decide +kernel
theorem dX9_gravel_35 : decode cX9_gravel 35 = .ok (.aload_n 0, 1) := by decide +kernel
theorem dX9_gravel_36 : decode cX9_gravel 36 = .ok (.getfield 31, 3) := by decide +kernel
theorem dX9_gravel_39 : decode cX9_gravel 39 = .ok (.iload_n 1, 1) := by decide +kernel
theorem dX9_gravel_40 : decode cX9_gravel 40 = .ok (.invokestatic 139, 3) := by decide +kernel
theorem dX9_gravel_43 : decode cX9_gravel 43 = .ok (.aload_n 0, 1) := by decide +kernel
theorem dX9_gravel_44 : decode cX9_gravel 44 = .ok (.getfield 31, 3) := by decide +kernel
theorem dX9_gravel_47 : decode cX9_gravel 47 = .ok (.iconst 2, 1) := by decide +kernel
theorem dX9_gravel_48 : decode cX9_gravel 48 = .ok (.iload_n 1, 1) := by decide +kernel
theorem dX9_gravel_49 : decode cX9_gravel 49 = .ok (.iadd, 1) := by decide +kernel
theorem dX9_gravel_50 : decode cX9_gravel 50 = .ok (.iaload, 1) := by decide +kernel
theorem dX9_gravel_51 : decode cX9_gravel 51 = .ok (.ireturn, 1) := by decide +kernel
theorem dX9_pull_0 : decode cX9_pull 0 = .ok (.aload_n 0, 1) := by decide +kernel
theorem dX9_pull_1 : decode cX9_pull 1 = .ok (.iconst 0, 1) := by decide +kernel
theorem dX9_pull_2 : decode cX9_pull 2 = .ok (.putfield 65, 3) := by decide +kernel
theorem dX9_pull_5 : decode cX9_pull 5 = .ok (.aload_n 0, 1) := by decide +kernel
theorem dX9_pull_6 : decode cX9_pull 6 = .ok (.iload_n 1, 1) := by decide +kernel
theorem dX9_pull_7 : decode cX9_pull 7 = .ok (.invokevirtual 154, 3) := by decide +kernel
theorem dX9_pull_10 : decode cX9_pull 10 = .ok (.ifCond .eq 5, 3) := by decide +kernel
theorem dX9_pull_13 : decode cX9_pull 13 = .ok (.iconst (-1), 1) := by decide +kernel
theorem dX9_pull_14 : decode cX9_pull 14 = .ok (.ireturn, 1) := by decide +kernel
theorem dX9_pull_15 : decode cX9_pull 15 = .ok (.aload_n 0, 1) := by decide +kernel
theorem dX9_pull_16 : decode cX9_pull 16 = .ok (.getfield 31, 3) := by decide +kernel
theorem dX9_pull_19 : decode cX9_pull 19 = .ok (.iconst 2, 1) := by decide +kernel
theorem dX9_pull_20 : decode cX9_pull 20 = .ok (.iload_n 1, 1) := by decide +kernel
theorem dX9_pull_21 : decode cX9_pull 21 = .ok (.iadd, 1) := by decide +kernel
theorem dX9_pull_22 : decode cX9_pull 22 = .ok (.iaload, 1) := by decide +kernel
theorem dX9_pull_23 : decode cX9_pull 23 = .ok (.ifCond .ne 6, 3) := by decide +kernel
theorem dX9_pull_26 : decode cX9_pull 26 = .ok (.bipush (-3), 2) := by decide +kernel
theorem dX9_pull_28 : decode cX9_pull 28 = .ok (.ireturn, 1) := by decide +kernel
theorem dX9_pull_29 : decode cX9_pull 29 = .ok (.aload_n 0, 1) := by decide +kernel
theorem dX9_pull_30 : decode cX9_pull 30 = .ok (.invokevirtual 158, 3) := by decide +kernel
theorem dX9_pull_33 : decode cX9_pull 33 = .ok (.aload_n 0, 1) := by decide +kernel
theorem dX9_pull_34 : decode cX9_pull 34 = .ok (.getfield 31, 3) := by decide +kernel
theorem dX9_pull_37 : decode cX9_pull 37 = .ok (.iconst 2, 1) := by decide +kernel
theorem dX9_pull_38 : decode cX9_pull 38 = .ok (.iload_n 1, 1) := by decide +kernel
theorem dX9_pull_39 : decode cX9_pull 39 = .ok (.iadd, 1) := by decide +kernel
theorem dX9_pull_40 : decode cX9_pull 40 = .ok (.dup2, 1) := by decide +kernel
theorem dX9_pull_41 : decode cX9_pull 41 = .ok (.iaload, 1) := by decide +kernel
theorem dX9_pull_42 : decode cX9_pull 42 = .ok (.iconst 1, 1) := by decide +kernel
theorem dX9_pull_43 : decode cX9_pull 43 = .ok (.isub, 1) := by decide +kernel
theorem dX9_pull_44 : decode cX9_pull 44 = .ok (.iastore, 1) := by decide +kernel
theorem dX9_pull_45 : decode cX9_pull 45 = .ok (.aload_n 0, 1) := by decide +kernel
theorem dX9_pull_46 : decode cX9_pull 46 = .ok (.getfield 31, 3) := by decide +kernel
theorem dX9_pull_49 : decode cX9_pull 49 = .ok (.iconst 2, 1) := by decide +kernel
theorem dX9_pull_50 : decode cX9_pull 50 = .ok (.iload_n 1, 1) := by decide +kernel
theorem dX9_pull_51 : decode cX9_pull 51 = .ok (.iadd, 1) := by decide +kernel
theorem dX9_pull_52 : decode cX9_pull 52 = .ok (.iaload, 1) := by decide +kernel
theorem dX9_pull_53 : decode cX9_pull 53 = .ok (.ireturn, 1) := by decide +kernel
theorem dX9_undo_0 : decode cX9_undo 0 = .ok (.aload_n 0, 1) := by decide +kernel
theorem dX9_undo_1 : decode cX9_undo 1 = .ok (.iconst 0, 1) := by decide +kernel
theorem dX9_undo_2 : decode cX9_undo 2 = .ok (.putfield 65, 3) := by decide +kernel
theorem dX9_undo_5 : decode cX9_undo 5 = .ok (.aload_n 0, 1) := by decide +kernel
theorem dX9_undo_6 : decode cX9_undo 6 = .ok (.getfield 114, 3) := by decide +kernel
theorem dX9_undo_9 : decode cX9_undo 9 = .ok (.ifCond .ne 6, 3) := by decide +kernel
theorem dX9_undo_12 : decode cX9_undo 12 = .ok (.bipush (-3), 2) := by decide +kernel
theorem dX9_undo_14 : decode cX9_undo 14 = .ok (.ireturn, 1) := by decide +kernel
theorem dX9_undo_15 : decode cX9_undo 15 = .ok (.aload_n 0, 1) := by decide +kernel
theorem dX9_undo_16 : decode cX9_undo 16 = .ok (.dup, 1) := by decide +kernel
theorem dX9_undo_17 : decode cX9_undo 17 = .ok (.getfield 114, 3) := by decide +kernel
theorem dX9_undo_20 : decode cX9_undo 20 = .ok (.iconst 1, 1) := by decide +kernel
theorem dX9_undo_21 : decode cX9_undo 21 = .ok (.isub, 1) := by decide +kernel
theorem dX9_undo_22 : decode cX9_undo 22 = .ok (.putfield 114, 3) := by decide +kernel
theorem dX9_undo_25 : decode cX9_undo 25 = .ok (.iconst 0, 1) := by decide +kernel
theorem dX9_undo_26 : decode cX9_undo 26 = .ok (.istore_n 1, 1) := by decide +kernel
theorem dX9_undo_27 : decode cX9_undo 27 = .ok (.iload_n 1, 1) := by decide +kernel
theorem dX9_undo_28 : decode cX9_undo 28 = .ok (.bipush 7, 2) := by decide +kernel
theorem dX9_undo_30 : decode cX9_undo 30 = .ok (.if_icmp .ge 29, 3) := by decide +kernel
theorem dX9_undo_33 : decode cX9_undo 33 = .ok (.aload_n 0, 1) := by decide +kernel
theorem dX9_undo_34 : decode cX9_undo 34 = .ok (.getfield 31, 3) := by decide +kernel
theorem dX9_undo_37 : decode cX9_undo 37 = .ok (.iload_n 1, 1) := by decide +kernel
theorem dX9_undo_38 : decode cX9_undo 38 = .ok (.aload_n 0, 1) := by decide +kernel
theorem dX9_undo_39 : decode cX9_undo 39 = .ok (.getfield 40, 3) := by decide +kernel
theorem dX9_undo_42 : decode cX9_undo 42 = .ok (.bipush 7, 2) := by decide +kernel
theorem dX9_undo_44 : decode cX9_undo 44 = .ok (.aload_n 0, 1) := by decide +kernel
theorem dX9_undo_45 : decode cX9_undo 45 = .ok (.getfield 114, 3) := by decide +kernel
theorem dX9_undo_48 : decode cX9_undo 48 = .ok (.imul, 1) := by decide +kernel
theorem dX9_undo_49 : decode cX9_undo 49 = .ok (.iload_n 1, 1) := by decide +kernel
theorem dX9_undo_50 : decode cX9_undo 50 = .ok (.iadd, 1) := by decide +kernel
theorem dX9_undo_51 : decode cX9_undo 51 = .ok (.iaload, 1) := by decide +kernel
theorem dX9_undo_52 : decode cX9_undo 52 = .ok (.iastore, 1) := by decide +kernel
theorem dX9_undo_53 : decode cX9_undo 53 = .ok (.iinc 1 1, 3) := by decide +kernel
theorem dX9_undo_56 : decode cX9_undo 56 = .ok (.goto (-29), 3) := by decide +kernel
theorem dX9_undo_59 : decode cX9_undo 59 = .ok (.aload_n 0, 1) := by decide +kernel
theorem dX9_undo_60 : decode cX9_undo 60 = .ok (.getfield 114, 3) := by decide +kernel
theorem dX9_undo_63 : decode cX9_undo 63 = .ok (.ireturn, 1) := by decide +kernel
theorem dX9_begin_0 : decode cX9_begin 0 = .ok (.iconst 0, 1) := by decide +kernel
theorem dX9_begin_1 : decode cX9_begin 1 = .ok (.istore_n 1, 1) := by decide +kernel
theorem dX9_begin_2 : decode cX9_begin 2 = .ok (.iload_n 1, 1) := by decide +kernel
theorem dX9_begin_3 : decode cX9_begin 3 = .ok (.bipush 7, 2) := by decide +kernel
theorem dX9_begin_5 : decode cX9_begin 5 = .ok (.if_icmp .ge 21, 3) := by decide +kernel
theorem dX9_begin_8 : decode cX9_begin 8 = .ok (.aload_n 0, 1) := by decide +kernel
theorem dX9_begin_9 : decode cX9_begin 9 = .ok (.getfield 34, 3) := by decide +kernel
theorem dX9_begin_12 : decode cX9_begin 12 = .ok (.iload_n 1, 1) := by decide +kernel
theorem dX9_begin_13 : decode cX9_begin 13 = .ok (.aload_n 0, 1) := by decide +kernel
theorem dX9_begin_14 : decode cX9_begin 14 = .ok (.getfield 31, 3) := by decide +kernel
theorem dX9_begin_17 : decode cX9_begin 17 = .ok (.iload_n 1, 1) := by decide +kernel
theorem dX9_begin_18 : decode cX9_begin 18 = .ok (.iaload, 1) := by decide +kernel
theorem dX9_begin_19 : decode cX9_begin 19 = .ok (.iastore, 1) := by decide +kernel
theorem dX9_begin_20 : decode cX9_begin 20 = .ok (.iinc 1 1, 3) := by decide +kernel
theorem dX9_begin_23 : decode cX9_begin 23 = .ok (.goto (-21), 3) := by decide +kernel
theorem dX9_begin_26 : decode cX9_begin 26 = .ok (.return_, 1) := by decide +kernel
theorem dX9_goDays_0 : decode cX9_goDays 0 = .ok (.iconst 0, 1) := by decide +kernel
theorem dX9_goDays_1 : decode cX9_goDays 1 = .ok (.istore_n 3, 1) := by decide +kernel
theorem dX9_goDays_2 : decode cX9_goDays 2 = .ok (.iload_n 3, 1) := by decide +kernel
theorem dX9_goDays_3 : decode cX9_goDays 3 = .ok (.iload_n 1, 1) := by decide +kernel
theorem dX9_goDays_4 : decode cX9_goDays 4 = .ok (.if_icmp .ge 19, 3) := by decide +kernel
theorem dX9_goDays_7 : decode cX9_goDays 7 = .ok (.aload_n 0, 1) := by decide +kernel
theorem dX9_goDays_8 : decode cX9_goDays 8 = .ok (.aload_n 0, 1) := by decide +kernel
theorem dX9_goDays_9 : decode cX9_goDays 9 = .ok (.getfield 34, 3) := by decide +kernel
theorem dX9_goDays_12 : decode cX9_goDays 12 = .ok (.iload_n 2, 1) := by decide +kernel
theorem dX9_goDays_13 : decode cX9_goDays 13 = .ok (.invokevirtual 161, 3) := by decide +kernel
theorem dX9_goDays_16 : decode cX9_goDays 16 = .ok (.pop, 1) := by decide +kernel
theorem dX9_goDays_17 : decode cX9_goDays 17 = .ok (.iinc 3 1, 3) := by decide +kernel
theorem dX9_goDays_20 : decode cX9_goDays 20 = .ok (.goto (-18), 3) := by decide +kernel
theorem dX9_goDays_23 : decode cX9_goDays 23 = .ok (.return_, 1) := by decide +kernel
theorem dX9_later_0 : decode cX9_later 0 = .ok (.aload_n 0, 1) := by decide +kernel
theorem dX9_later_1 : decode cX9_later 1 = .ok (.iconst 0, 1) := by decide +kernel
theorem dX9_later_2 : decode cX9_later 2 = .ok (.putfield 65, 3) := by decide +kernel
theorem dX9_later_5 : decode cX9_later 5 = .ok (.iload_n 1, 1) := by decide +kernel
theorem dX9_later_6 : decode cX9_later 6 = .ok (.i2l, 1) := by decide +kernel
theorem dX9_later_7 : decode cX9_later 7 = .ok (.lconst 0, 1) := by decide +kernel
theorem dX9_later_8 : decode cX9_later 8 = .ok (.ldc2_w 167, 3) := by decide +kernel
theorem dX9_later_11 : decode cX9_later 11 = .ok (.invokestatic 72, 3) := by decide +kernel
theorem dX9_later_14 : decode cX9_later 14 = .ok (.ifCond .eq 13, 3) := by decide +kernel
theorem dX9_later_17 : decode cX9_later 17 = .ok (.iload_n 2, 1) := by decide +kernel
theorem dX9_later_18 : decode cX9_later 18 = .ok (.i2l, 1) := by decide +kernel
theorem dX9_later_19 : decode cX9_later 19 = .ok (.lconst 0, 1) := by decide +kernel
theorem dX9_later_20 : decode cX9_later 20 = .ok (.lconst 1, 1) := by decide +kernel
theorem dX9_later_21 : decode cX9_later 21 = .ok (.invokestatic 72, 3) := by decide +kernel
theorem dX9_later_24 : decode cX9_later 24 = .ok (.ifCond .ne 6, 3) := by decide +kernel
theorem dX9_later_27 : decode cX9_later 27 = .ok (.bipush (-2), 2) := by decide +kernel
theorem dX9_later_29 : decode cX9_later 29 = .ok (.ireturn, 1) := by decide +kernel
theorem dX9_later_30 : decode cX9_later 30 = .ok (.aload_n 0, 1) := by decide +kernel
theorem dX9_later_31 : decode cX9_later 31 = .ok (.invokevirtual 169, 3) := by decide +kernel
theorem dX9_later_34 : decode cX9_later 34 = .ok (.aload_n 0, 1) := by decide +kernel
theorem dX9_later_35 : decode cX9_later 35 = .ok (.iload_n 1, 1) := by decide +kernel
theorem dX9_later_36 : decode cX9_later 36 = .ok (.bipush 31, 2) := by decide +kernel
theorem dX9_later_38 : decode cX9_later 38 = .ok (.invokevirtual 172, 3) := by decide +kernel
theorem dX9_later_41 : decode cX9_later 41 = .ok (.iload_n 2, 1) := by decide +kernel
theorem dX9_later_42 : decode cX9_later 42 = .ok (.ifCond .ne 12, 3) := by decide +kernel
theorem dX9_later_45 : decode cX9_later 45 = .ok (.aload_n 0, 1) := by decide +kernel
theorem dX9_later_46 : decode cX9_later 46 = .ok (.getfield 34, 3) := by decide +kernel
theorem dX9_later_49 : decode cX9_later 49 = .ok (.iconst 0, 1) := by decide +kernel
theorem dX9_later_50 : decode cX9_later 50 = .ok (.iaload, 1) := by decide +kernel
theorem dX9_later_51 : decode cX9_later 51 = .ok (.goto 13, 3) := by decide +kernel
theorem dX9_later_54 : decode cX9_later 54 = .ok (.aload_n 0, 1) := by decide +kernel
theorem dX9_later_55 : decode cX9_later 55 = .ok (.aload_n 0, 1) := by decide +kernel
theorem dX9_later_56 : decode cX9_later 56 = .ok (.getfield 34, 3) := by decide +kernel
theorem dX9_later_59 : decode cX9_later 59 = .ok (.bipush 31, 2) := by decide +kernel
theorem dX9_later_61 : decode cX9_later 61 = .ok (.invokevirtual 133, 3) := by decide +kernel
theorem dX9_later_64 : decode cX9_later 64 = .ok (.ireturn, 1) := by decide +kernel
theorem dX9_comesOf_0 : decode cX9_comesOf 0 = .ok (.iconst 0, 1) := by decide +kernel
theorem dX9_comesOf_1 : decode cX9_comesOf 1 = .ok (.istore_n 1, 1) := by decide +kernel
theorem dX9_comesOf_2 : decode cX9_comesOf 2 = .ok (.iload_n 1, 1) := by decide +kernel
theorem dX9_comesOf_3 : decode cX9_comesOf 3 = .ok (.bipush 7, 2) := by decide +kernel
theorem dX9_comesOf_5 : decode cX9_comesOf 5 = .ok (.if_icmp .ge 21, 3) := by decide +kernel
theorem dX9_comesOf_8 : decode cX9_comesOf 8 = .ok (.aload_n 0, 1) := by decide +kernel
theorem dX9_comesOf_9 : decode cX9_comesOf 9 = .ok (.getfield 37, 3) := by decide +kernel
theorem dX9_comesOf_12 : decode cX9_comesOf 12 = .ok (.iload_n 1, 1) := by decide +kernel
theorem dX9_comesOf_13 : decode cX9_comesOf 13 = .ok (.aload_n 0, 1) := by decide +kernel
theorem dX9_comesOf_14 : decode cX9_comesOf 14 = .ok (.getfield 34, 3) := by decide +kernel
theorem dX9_comesOf_17 : decode cX9_comesOf 17 = .ok (.iload_n 1, 1) := by decide +kernel
theorem dX9_comesOf_18 : decode cX9_comesOf 18 = .ok (.iaload, 1) := by decide +kernel
theorem dX9_comesOf_19 : decode cX9_comesOf 19 = .ok (.iastore, 1) := by decide +kernel
theorem dX9_comesOf_20 : decode cX9_comesOf 20 = .ok (.iinc 1 1, 3) := by decide +kernel
theorem dX9_comesOf_23 : decode cX9_comesOf 23 = .ok (.goto (-21), 3) := by decide +kernel
theorem dX9_comesOf_26 : decode cX9_comesOf 26 = .ok (.iconst 0, 1) := by decide +kernel
theorem dX9_comesOf_27 : decode cX9_comesOf 27 = .ok (.istore_n 1, 1) := by decide +kernel
theorem dX9_comesOf_28 : decode cX9_comesOf 28 = .ok (.iload_n 1, 1) := by decide +kernel
theorem dX9_comesOf_29 : decode cX9_comesOf 29 = .ok (.bipush 60, 2) := by decide +kernel
theorem dX9_comesOf_31 : decode cX9_comesOf 31 = .ok (.if_icmp .gt 35, 3) := by decide +kernel
theorem dX9_comesOf_34 : decode cX9_comesOf 34 = .ok (.aload_n 0, 1) := by decide +kernel
theorem dX9_comesOf_35 : decode cX9_comesOf 35 = .ok (.getfield 37, 3) := by decide +kernel
theorem dX9_comesOf_38 : decode cX9_comesOf 38 = .ok (.iconst 0, 1) := by decide +kernel
theorem dX9_comesOf_39 : decode cX9_comesOf 39 = .ok (.iaload, 1) := by decide +kernel
theorem dX9_comesOf_40 : decode cX9_comesOf 40 = .ok (.aload_n 0, 1) := by decide +kernel
theorem dX9_comesOf_41 : decode cX9_comesOf 41 = .ok (.getfield 111, 3) := by decide +kernel
theorem dX9_comesOf_44 : decode cX9_comesOf 44 = .ok (.if_icmp .ne 5, 3) := by decide +kernel
theorem dX9_comesOf_47 : decode cX9_comesOf 47 = .ok (.iload_n 1, 1) := by decide +kernel
theorem dX9_comesOf_48 : decode cX9_comesOf 48 = .ok (.ireturn, 1) := by decide +kernel
theorem dX9_comesOf_49 : decode cX9_comesOf 49 = .ok (.aload_n 0, 1) := by decide +kernel
theorem dX9_comesOf_50 : decode cX9_comesOf 50 = .ok (.aload_n 0, 1) := by decide +kernel
theorem dX9_comesOf_51 : decode cX9_comesOf 51 = .ok (.getfield 37, 3) := by decide +kernel
theorem dX9_comesOf_54 : decode cX9_comesOf 54 = .ok (.bipush 31, 2) := by decide +kernel
theorem dX9_comesOf_56 : decode cX9_comesOf 56 = .ok (.invokevirtual 161, 3) := by decide +kernel
theorem dX9_comesOf_59 : decode cX9_comesOf 59 = .ok (.pop, 1) := by decide +kernel
theorem dX9_comesOf_60 : decode cX9_comesOf 60 = .ok (.iinc 1 1, 3) := by decide +kernel
theorem dX9_comesOf_63 : decode cX9_comesOf 63 = .ok (.goto (-35), 3) := by decide +kernel
theorem dX9_comesOf_66 : decode cX9_comesOf 66 = .ok (.bipush (-9), 2) := by decide +kernel
theorem dX9_comesOf_68 : decode cX9_comesOf 68 = .ok (.ireturn, 1) := by decide +kernel
theorem dX9_comes_0 : decode cX9_comes 0 = .ok (.aload_n 0, 1) := by decide +kernel
theorem dX9_comes_1 : decode cX9_comes 1 = .ok (.iconst 0, 1) := by decide +kernel
theorem dX9_comes_2 : decode cX9_comes 2 = .ok (.putfield 65, 3) := by decide +kernel
theorem dX9_comes_5 : decode cX9_comes 5 = .ok (.aload_n 0, 1) := by decide +kernel
