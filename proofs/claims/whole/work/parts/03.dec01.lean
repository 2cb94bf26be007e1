theorem dX2_prick_5 : decode cX2_prick 5 = .ok (.invokevirtual 75, 3) := by decide +kernel
theorem dX2_prick_8 : decode cX2_prick 8 = .ok (.ifCond .eq 37, 3) := by decide +kernel
theorem dX2_prick_11 : decode cX2_prick 11 = .ok (.iload_n 1, 1) := by decide +kernel
theorem dX2_prick_12 : decode cX2_prick 12 = .ok (.ifCond .lt 33, 3) := by decide +kernel
theorem dX2_prick_15 : decode cX2_prick 15 = .ok (.iload_n 1, 1) := by decide +kernel
theorem dX2_prick_16 : decode cX2_prick 16 = .ok (.aload_n 0, 1) := by decide +kernel
theorem dX2_prick_17 : decode cX2_prick 17 = .ok (.getfield 9, 3) := by decide +kernel
theorem dX2_prick_20 : decode cX2_prick 20 = .ok (.arraylength, 1) := by decide +kernel
theorem dX2_prick_21 : decode cX2_prick 21 = .ok (.if_icmp .ge 24, 3) := by decide +kernel
theorem dX2_prick_24 : decode cX2_prick 24 = .ok (.aload_n 0, 1) := by decide +kernel
theorem dX2_prick_25 : decode cX2_prick 25 = .ok (.getfield 9, 3) := by decide +kernel
theorem dX2_prick_28 : decode cX2_prick 28 = .ok (.iload_n 1, 1) := by decide +kernel
theorem dX2_prick_29 : decode cX2_prick 29 = .ok (.iaload, 1) := by decide +kernel
theorem dX2_prick_30 : decode cX2_prick 30 = .ok (.bipush 9, 2) := by decide +kernel
theorem dX2_prick_32 : decode cX2_prick 32 = .ok (.if_icmp .ge 13, 3) := by decide +kernel
theorem dX2_prick_35 : decode cX2_prick 35 = .ok (.aload_n 0, 1) := by decide +kernel
theorem dX2_prick_36 : decode cX2_prick 36 = .ok (.getfield 9, 3) := by decide +kernel
theorem dX2_prick_39 : decode cX2_prick 39 = .ok (.iload_n 1, 1) := by decide +kernel
theorem dX2_prick_40 : decode cX2_prick 40 = .ok (.dup2, 1) := by decide +kernel
theorem dX2_prick_41 : decode cX2_prick 41 = .ok (.iaload, 1) := by decide +kernel
theorem dX2_prick_42 : decode cX2_prick 42 = .ok (.iconst 1, 1) := by decide +kernel
theorem dX2_prick_43 : decode cX2_prick 43 = .ok (.iadd, 1) := by decide +kernel
theorem dX2_prick_44 : decode cX2_prick 44 = .ok (.iastore, 1) := by decide +kernel
theorem dX2_prick_45 : decode cX2_prick 45 = .ok (.return_, 1) := by decide +kernel
theorem dX2_canEase_0 : decode cX2_canEase 0 = .ok (.aload_n 0, 1) := by decide +kernel
theorem dX2_canEase_1 : decode cX2_canEase 1 = .ok (.getfield 23, 3) := by decide +kernel
theorem dX2_canEase_4 : decode cX2_canEase 4 = .ok (.iload_n 1, 1) := by decide +kernel
theorem dX2_canEase_5 : decode cX2_canEase 5 = .ok (.invokevirtual 75, 3) := by decide +kernel
theorem dX2_canEase_8 : decode cX2_canEase 8 = .ok (.ifCond .eq 15, 3) := by decide +kernel
theorem dX2_canEase_11 : decode cX2_canEase 11 = .ok (.aload_n 0, 1) := by decide +kernel
theorem dX2_canEase_12 : decode cX2_canEase 12 = .ok (.iload_n 1, 1) := by decide +kernel
theorem dX2_canEase_13 : decode cX2_canEase 13 = .ok (.invokevirtual 62, 3) := by decide +kernel
theorem dX2_canEase_16 : decode cX2_canEase 16 = .ok (.ifCond .le 7, 3) := by decide +kernel
theorem dX2_canEase_19 : decode cX2_canEase 19 = .ok (.iconst 1, 1) := by decide +kernel
theorem dX2_canEase_20 : decode cX2_canEase 20 = .ok (.goto 4, 3) := by decide +kernel
theorem dX2_canEase_23 : decode cX2_canEase 23 = .ok (.iconst 0, 1) := by decide +kernel
theorem dX2_canEase_24 : decode cX2_canEase 24 = .ok (.ireturn, 1) := by decide +kernel
theorem dX2_ease_0 : decode cX2_ease 0 = .ok (.aload_n 0, 1) := by decide +kernel
theorem dX2_ease_1 : decode cX2_ease 1 = .ok (.getfield 23, 3) := by decide +kernel
theorem dX2_ease_4 : decode cX2_ease 4 = .ok (.iload_n 1, 1) := by decide +kernel
theorem dX2_ease_5 : decode cX2_ease 5 = .ok (.invokevirtual 75, 3) := by decide +kernel
theorem dX2_ease_8 : decode cX2_ease 8 = .ok (.ifCond .eq 35, 3) := by decide +kernel
theorem dX2_ease_11 : decode cX2_ease 11 = .ok (.iload_n 1, 1) := by decide +kernel
theorem dX2_ease_12 : decode cX2_ease 12 = .ok (.ifCond .lt 31, 3) := by decide +kernel
theorem dX2_ease_15 : decode cX2_ease 15 = .ok (.iload_n 1, 1) := by decide +kernel
theorem dX2_ease_16 : decode cX2_ease 16 = .ok (.aload_n 0, 1) := by decide +kernel
theorem dX2_ease_17 : decode cX2_ease 17 = .ok (.getfield 9, 3) := by decide +kernel
theorem dX2_ease_20 : decode cX2_ease 20 = .ok (.arraylength, 1) := by decide +kernel
theorem dX2_ease_21 : decode cX2_ease 21 = .ok (.if_icmp .ge 22, 3) := by decide +kernel
theorem dX2_ease_24 : decode cX2_ease 24 = .ok (.aload_n 0, 1) := by decide +kernel
theorem dX2_ease_25 : decode cX2_ease 25 = .ok (.getfield 9, 3) := by decide +kernel
theorem dX2_ease_28 : decode cX2_ease 28 = .ok (.iload_n 1, 1) := by decide +kernel
theorem dX2_ease_29 : decode cX2_ease 29 = .ok (.iaload, 1) := by decide +kernel
theorem dX2_ease_30 : decode cX2_ease 30 = .ok (.ifCond .le 13, 3) := by decide +kernel
theorem dX2_ease_33 : decode cX2_ease 33 = .ok (.aload_n 0, 1) := by decide +kernel
theorem dX2_ease_34 : decode cX2_ease 34 = .ok (.getfield 9, 3) := by decide +kernel
theorem dX2_ease_37 : decode cX2_ease 37 = .ok (.iload_n 1, 1) := by decide +kernel
theorem dX2_ease_38 : decode cX2_ease 38 = .ok (.dup2, 1) := by decide +kernel
theorem dX2_ease_39 : decode cX2_ease 39 = .ok (.iaload, 1) := by decide +kernel
theorem dX2_ease_40 : decode cX2_ease 40 = .ok (.iconst 1, 1) := by decide +kernel
theorem dX2_ease_41 : decode cX2_ease 41 = .ok (.isub, 1) := by decide +kernel
theorem dX2_ease_42 : decode cX2_ease 42 = .ok (.iastore, 1) := by decide +kernel
theorem dX2_ease_43 : decode cX2_ease 43 = .ok (.return_, 1) := by decide +kernel
theorem dX2_easeTimes_0 : decode cX2_easeTimes 0 = .ok (.iconst 0, 1) := by decide +kernel
theorem dX2_easeTimes_1 : decode cX2_easeTimes 1 = .ok (.istore_n 3, 1) := by decide +kernel
theorem dX2_easeTimes_2 : decode cX2_easeTimes 2 = .ok (.iload_n 3, 1) := by decide +kernel
theorem dX2_easeTimes_3 : decode cX2_easeTimes 3 = .ok (.iload_n 2, 1) := by decide +kernel
theorem dX2_easeTimes_4 : decode cX2_easeTimes 4 = .ok (.if_icmp .ge 14, 3) := by decide +kernel
theorem dX2_easeTimes_7 : decode cX2_easeTimes 7 = .ok (.aload_n 0, 1) := by decide +kernel
theorem dX2_easeTimes_8 : decode cX2_easeTimes 8 = .ok (.iload_n 1, 1) := by decide +kernel
theorem dX2_easeTimes_9 : decode cX2_easeTimes 9 = .ok (.invokevirtual 79, 3) := by decide +kernel
theorem dX2_easeTimes_12 : decode cX2_easeTimes 12 = .ok (.iinc 3 1, 3) := by decide +kernel
theorem dX2_easeTimes_15 : decode cX2_easeTimes 15 = .ok (.goto (-13), 3) := by decide +kernel
theorem dX2_easeTimes_18 : decode cX2_easeTimes 18 = .ok (.return_, 1) := by decide +kernel
theorem dX2_goDay_0 : decode cX2_goDay 0 = .ok (.aload_n 0, 1) := by decide +kernel
theorem dX2_goDay_1 : decode cX2_goDay 1 = .ok (.invokevirtual 69, 3) := by decide +kernel
theorem dX2_goDay_4 : decode cX2_goDay 4 = .ok (.istore_n 1, 1) := by decide +kernel
theorem dX2_goDay_5 : decode cX2_goDay 5 = .ok (.iconst 0, 1) := by decide +kernel
theorem dX2_goDay_6 : decode cX2_goDay 6 = .ok (.istore_n 2, 1) := by decide +kernel
theorem dX2_goDay_7 : decode cX2_goDay 7 = .ok (.aload_n 0, 1) := by decide +kernel
theorem dX2_goDay_8 : decode cX2_goDay 8 = .ok (.invokevirtual 83, 3) := by decide +kernel
theorem dX2_goDay_11 : decode cX2_goDay 11 = .ok (.ifCond .ne 73, 3) := by decide +kernel
theorem dX2_goDay_14 : decode cX2_goDay 14 = .ok (.iload_n 1, 1) := by decide +kernel
theorem dX2_goDay_15 : decode cX2_goDay 15 = .ok (.bipush (-9), 2) := by decide +kernel
theorem dX2_goDay_17 : decode cX2_goDay 17 = .ok (.if_icmp .eq 67, 3) := by decide +kernel
theorem dX2_goDay_20 : decode cX2_goDay 20 = .ok (.aload_n 0, 1) := by decide +kernel
theorem dX2_goDay_21 : decode cX2_goDay 21 = .ok (.getfield 19, 3) := by decide +kernel
theorem dX2_goDay_24 : decode cX2_goDay 24 = .ok (.aload_n 0, 1) := by decide +kernel
theorem dX2_goDay_25 : decode cX2_goDay 25 = .ok (.getfield 19, 3) := by decide +kernel
theorem dX2_goDay_28 : decode cX2_goDay 28 = .ok (.aload_n 0, 1) := by decide +kernel
theorem dX2_goDay_29 : decode cX2_goDay 29 = .ok (.getfield 27, 3) := by decide +kernel
theorem dX2_goDay_32 : decode cX2_goDay 32 = .ok (.invokevirtual 87, 3) := by decide +kernel
theorem dX2_goDay_35 : decode cX2_goDay 35 = .ok (.invokevirtual 90, 3) := by decide +kernel
theorem dX2_goDay_38 : decode cX2_goDay 38 = .ok (.istore_n 3, 1) := by decide +kernel
theorem dX2_goDay_39 : decode cX2_goDay 39 = .ok (.iload_n 3, 1) := by decide +kernel
theorem dX2_goDay_40 : decode cX2_goDay 40 = .ok (.aload_n 0, 1) := by decide +kernel
theorem dX2_goDay_41 : decode cX2_goDay 41 = .ok (.iload_n 1, 1) := by decide +kernel
theorem dX2_goDay_42 : decode cX2_goDay 42 = .ok (.invokevirtual 72, 3) := by decide +kernel
theorem dX2_goDay_45 : decode cX2_goDay 45 = .ok (.invokestatic 93, 3) := by decide +kernel
theorem dX2_goDay_48 : decode cX2_goDay 48 = .ok (.aload_n 0, 1) := by decide +kernel
theorem dX2_goDay_49 : decode cX2_goDay 49 = .ok (.getfield 19, 3) := by decide +kernel
theorem dX2_goDay_52 : decode cX2_goDay 52 = .ok (.invokevirtual 33, 3) := by decide +kernel
theorem dX2_goDay_55 : decode cX2_goDay 55 = .ok (.aload_n 0, 1) := by decide +kernel
theorem dX2_goDay_56 : decode cX2_goDay 56 = .ok (.getfield 27, 3) := by decide +kernel
theorem dX2_goDay_59 : decode cX2_goDay 59 = .ok (.isub, 1) := by decide +kernel
theorem dX2_goDay_60 : decode cX2_goDay 60 = .ok (.invokestatic 97, 3) := by decide +kernel
theorem dX2_goDay_63 : decode cX2_goDay 63 = .ok (.istore_n 2, 1) := by decide +kernel
theorem dX2_goDay_64 : decode cX2_goDay 64 = .ok (.aload_n 0, 1) := by decide +kernel
theorem dX2_goDay_65 : decode cX2_goDay 65 = .ok (.dup, 1) := by decide +kernel
theorem dX2_goDay_66 : decode cX2_goDay 66 = .ok (.getfield 27, 3) := by decide +kernel
theorem dX2_goDay_69 : decode cX2_goDay 69 = .ok (.iload_n 2, 1) := by decide +kernel
theorem dX2_goDay_70 : decode cX2_goDay 70 = .ok (.iadd, 1) := by decide +kernel
theorem dX2_goDay_71 : decode cX2_goDay 71 = .ok (.putfield 27, 3) := by decide +kernel
theorem dX2_goDay_74 : decode cX2_goDay 74 = .ok (.iload_n 3, 1) := by decide +kernel
theorem dX2_goDay_75 : decode cX2_goDay 75 = .ok (.iconst 3, 1) := by decide +kernel
theorem dX2_goDay_76 : decode cX2_goDay 76 = .ok (.if_icmp .ne 8, 3) := by decide +kernel
theorem dX2_goDay_79 : decode cX2_goDay 79 = .ok (.aload_n 0, 1) := by decide +kernel
theorem dX2_goDay_80 : decode cX2_goDay 80 = .ok (.iload_n 1, 1) := by decide +kernel
theorem dX2_goDay_81 : decode cX2_goDay 81 = .ok (.invokevirtual 102, 3) := by decide +kernel
theorem dX2_goDay_84 : decode cX2_goDay 84 = .ok (.aload_n 0, 1) := by decide +kernel
theorem dX2_goDay_85 : decode cX2_goDay 85 = .ok (.getfield 30, 3) := by decide +kernel
theorem dX2_goDay_88 : decode cX2_goDay 88 = .ok (.iconst 3, 1) := by decide +kernel
theorem dX2_goDay_89 : decode cX2_goDay 89 = .ok (.irem, 1) := by decide +kernel
theorem dX2_goDay_90 : decode cX2_goDay 90 = .ok (.iconst 2, 1) := by decide +kernel
theorem dX2_goDay_91 : decode cX2_goDay 91 = .ok (.if_icmp .ne 7, 3) := by decide +kernel
theorem dX2_goDay_94 : decode cX2_goDay 94 = .ok (.aload_n 0, 1) := by decide +kernel
theorem dX2_goDay_95 : decode cX2_goDay 95 = .ok (.invokevirtual 105, 3) := by decide +kernel
theorem dX2_goDay_98 : decode cX2_goDay 98 = .ok (.aload_n 0, 1) := by decide +kernel
theorem dX2_goDay_99 : decode cX2_goDay 99 = .ok (.dup, 1) := by decide +kernel
theorem dX2_goDay_100 : decode cX2_goDay 100 = .ok (.getfield 30, 3) := by decide +kernel
theorem dX2_goDay_103 : decode cX2_goDay 103 = .ok (.iconst 1, 1) := by decide +kernel
theorem dX2_goDay_104 : decode cX2_goDay 104 = .ok (.iadd, 1) := by decide +kernel
theorem dX2_goDay_105 : decode cX2_goDay 105 = .ok (.putfield 30, 3) := by decide +kernel
theorem dX2_goDay_108 : decode cX2_goDay 108 = .ok (.iload_n 2, 1) := by decide +kernel
theorem dX2_goDay_109 : decode cX2_goDay 109 = .ok (.ireturn, 1) := by decide +kernel
theorem dX2_milesOver_0 : decode cX2_milesOver 0 = .ok (.iload_n 0, 1) := by decide +kernel
theorem dX2_milesOver_1 : decode cX2_milesOver 1 = .ok (.iconst 1, 1) := by decide +kernel
theorem dX2_milesOver_2 : decode cX2_milesOver 2 = .ok (.if_icmp .ne 11, 3) := by decide +kernel
theorem dX2_milesOver_5 : decode cX2_milesOver 5 = .ok (.iconst 1, 1) := by decide +kernel
theorem dX2_milesOver_6 : decode cX2_milesOver 6 = .ok (.iload_n 1, 1) := by decide +kernel
theorem dX2_milesOver_7 : decode cX2_milesOver 7 = .ok (.iconst 2, 1) := by decide +kernel
theorem dX2_milesOver_8 : decode cX2_milesOver 8 = .ok (.idiv, 1) := by decide +kernel
theorem dX2_milesOver_9 : decode cX2_milesOver 9 = .ok (.invokestatic 108, 3) := by decide +kernel
theorem dX2_milesOver_12 : decode cX2_milesOver 12 = .ok (.ireturn, 1) := by decide +kernel
theorem dX2_milesOver_13 : decode cX2_milesOver 13 = .ok (.iload_n 0, 1) := by decide +kernel
theorem dX2_milesOver_14 : decode cX2_milesOver 14 = .ok (.iconst 2, 1) := by decide +kernel
theorem dX2_milesOver_15 : decode cX2_milesOver 15 = .ok (.if_icmp .ne 7, 3) := by decide +kernel
theorem dX2_milesOver_18 : decode cX2_milesOver 18 = .ok (.iconst 1, 1) := by decide +kernel
theorem dX2_milesOver_19 : decode cX2_milesOver 19 = .ok (.goto 4, 3) := by decide +kernel
theorem dX2_milesOver_22 : decode cX2_milesOver 22 = .ok (.iload_n 1, 1) := by decide +kernel
theorem dX2_milesOver_23 : decode cX2_milesOver 23 = .ok (.ireturn, 1) := by decide +kernel
theorem dX2_goDays_0 : decode cX2_goDays 0 = .ok (.iconst 0, 1) := by decide +kernel
theorem dX2_goDays_1 : decode cX2_goDays 1 = .ok (.istore_n 2, 1) := by decide +kernel
theorem dX2_goDays_2 : decode cX2_goDays 2 = .ok (.iload_n 2, 1) := by decide +kernel
theorem dX2_goDays_3 : decode cX2_goDays 3 = .ok (.iload_n 1, 1) := by decide +kernel
theorem dX2_goDays_4 : decode cX2_goDays 4 = .ok (.if_icmp .ge 14, 3) := by decide +kernel
theorem dX2_goDays_7 : decode cX2_goDays 7 = .ok (.aload_n 0, 1) := by decide +kernel
theorem dX2_goDays_8 : decode cX2_goDays 8 = .ok (.invokevirtual 111, 3) := by decide +kernel
theorem dX2_goDays_11 : decode cX2_goDays 11 = .ok (.pop, 1) := by decide +kernel
theorem dX2_goDays_12 : decode cX2_goDays 12 = .ok (.iinc 2 1, 3) := by decide +kernel
theorem dX2_goDays_15 : decode cX2_goDays 15 = .ok (.goto (-13), 3) := by decide +kernel
theorem dX2_goDays_18 : decode cX2_goDays 18 = .ok (.return_, 1) := by decide +kernel
theorem dX2_goToEnd_0 : decode cX2_goToEnd 0 = .ok (.iconst 0, 1) := by decide +kernel
theorem dX2_goToEnd_1 : decode cX2_goToEnd 1 = .ok (.istore_n 2, 1) := by decide +kernel
theorem dX2_goToEnd_2 : decode cX2_goToEnd 2 = .ok (.iload_n 2, 1) := by decide +kernel
theorem dX2_goToEnd_3 : decode cX2_goToEnd 3 = .ok (.iload_n 1, 1) := by decide +kernel
theorem dX2_goToEnd_4 : decode cX2_goToEnd 4 = .ok (.if_icmp .ge 23, 3) := by decide +kernel
theorem dX2_goToEnd_7 : decode cX2_goToEnd 7 = .ok (.aload_n 0, 1) := by decide +kernel
theorem dX2_goToEnd_8 : decode cX2_goToEnd 8 = .ok (.invokevirtual 83, 3) := by decide +kernel
theorem dX2_goToEnd_11 : decode cX2_goToEnd 11 = .ok (.ifCond .eq 5, 3) := by decide +kernel
theorem dX2_goToEnd_14 : decode cX2_goToEnd 14 = .ok (.iload_n 2, 1) := by decide +kernel
theorem dX2_goToEnd_15 : decode cX2_goToEnd 15 = .ok (.ireturn, 1) := by decide +kernel
theorem dX2_goToEnd_16 : decode cX2_goToEnd 16 = .ok (.aload_n 0, 1) := by decide +kernel
theorem dX2_goToEnd_17 : decode cX2_goToEnd 17 = .ok (.invokevirtual 111, 3) := by decide +kernel
theorem dX2_goToEnd_20 : decode cX2_goToEnd 20 = .ok (.pop, 1) := by decide +kernel
theorem dX2_goToEnd_21 : decode cX2_goToEnd 21 = .ok (.iinc 2 1, 3) := by decide +kernel
theorem dX2_goToEnd_24 : decode cX2_goToEnd 24 = .ok (.goto (-22), 3) := by decide +kernel
theorem dX2_goToEnd_27 : decode cX2_goToEnd 27 = .ok (.aload_n 0, 1) := by decide +kernel
theorem dX2_goToEnd_28 : decode cX2_goToEnd 28 = .ok (.invokevirtual 83, 3) := by decide +kernel
theorem dX2_goToEnd_31 : decode cX2_goToEnd 31 = .ok (.ifCond .eq 7, 3) := by decide +kernel
theorem dX2_goToEnd_34 : decode cX2_goToEnd 34 = .ok (.iload_n 1, 1) := by decide +kernel
theorem dX2_goToEnd_35 : decode cX2_goToEnd 35 = .ok (.goto 5, 3) := by decide +kernel
theorem dX2_goToEnd_38 : decode cX2_goToEnd 38 = .ok (.bipush (-9), 2) := by decide +kernel
theorem dX2_goToEnd_40 : decode cX2_goToEnd 40 = .ok (.ireturn, 1) := by decide +kernel
theorem dX2_stay_0 : decode cX2_stay 0 = .ok (.aload_n 0, 1) := by decide +kernel
theorem dX2_stay_1 : decode cX2_stay 1 = .ok (.invokevirtual 105, 3) := by decide +kernel
theorem dX2_stay_4 : decode cX2_stay 4 = .ok (.aload_n 0, 1) := by decide +kernel
theorem dX2_stay_5 : decode cX2_stay 5 = .ok (.dup, 1) := by decide +kernel
theorem dX2_stay_6 : decode cX2_stay 6 = .ok (.getfield 30, 3) := by decide +kernel
theorem dX2_stay_9 : decode cX2_stay 9 = .ok (.iconst 1, 1) := by decide +kernel
theorem dX2_stay_10 : decode cX2_stay 10 = .ok (.iadd, 1) := by decide +kernel
theorem dX2_stay_11 : decode cX2_stay 11 = .ok (.putfield 30, 3) := by decide +kernel
theorem dX2_stay_14 : decode cX2_stay 14 = .ok (.return_, 1) := by decide +kernel
theorem dX2_healAll_0 : decode cX2_healAll 0 = .ok (.iconst 0, 1) := by decide +kernel
theorem dX2_healAll_1 : decode cX2_healAll 1 = .ok (.istore_n 1, 1) := by decide +kernel
theorem dX2_healAll_2 : decode cX2_healAll 2 = .ok (.iload_n 1, 1) := by decide +kernel
theorem dX2_healAll_3 : decode cX2_healAll 3 = .ok (.aload_n 0, 1) := by decide +kernel
theorem dX2_healAll_4 : decode cX2_healAll 4 = .ok (.getfield 9, 3) := by decide +kernel
theorem dX2_healAll_7 : decode cX2_healAll 7 = .ok (.arraylength, 1) := by decide +kernel
theorem dX2_healAll_8 : decode cX2_healAll 8 = .ok (.if_icmp .ge 40, 3) := by decide +kernel
theorem dX2_healAll_11 : decode cX2_healAll 11 = .ok (.aload_n 0, 1) := by decide +kernel
theorem dX2_healAll_12 : decode cX2_healAll 12 = .ok (.getfield 9, 3) := by decide +kernel
theorem dX2_healAll_15 : decode cX2_healAll 15 = .ok (.iload_n 1, 1) := by decide +kernel
theorem dX2_healAll_16 : decode cX2_healAll 16 = .ok (.iaload, 1) := by decide +kernel
theorem dX2_healAll_17 : decode cX2_healAll 17 = .ok (.ifCond .le 25, 3) := by decide +kernel
theorem dX2_healAll_20 : decode cX2_healAll 20 = .ok (.aload_n 0, 1) := by decide +kernel
theorem dX2_healAll_21 : decode cX2_healAll 21 = .ok (.getfield 23, 3) := by decide +kernel
theorem dX2_healAll_24 : decode cX2_healAll 24 = .ok (.iload_n 1, 1) := by decide +kernel
theorem dX2_healAll_25 : decode cX2_healAll 25 = .ok (.invokevirtual 59, 3) := by decide +kernel
theorem dX2_healAll_28 : decode cX2_healAll 28 = .ok (.iconst 3, 1) := by decide +kernel
theorem dX2_healAll_29 : decode cX2_healAll 29 = .ok (.if_icmp .eq 13, 3) := by decide +kernel
theorem dX2_healAll_32 : decode cX2_healAll 32 = .ok (.aload_n 0, 1) := by decide +kernel
theorem dX2_healAll_33 : decode cX2_healAll 33 = .ok (.getfield 9, 3) := by decide +kernel
theorem dX2_healAll_36 : decode cX2_healAll 36 = .ok (.iload_n 1, 1) := by decide +kernel
theorem dX2_healAll_37 : decode cX2_healAll 37 = .ok (.dup2, 1) := by decide +kernel
theorem dX2_healAll_38 : decode cX2_healAll 38 = .ok (.iaload, 1) := by decide +kernel
theorem dX2_healAll_39 : decode cX2_healAll 39 = .ok (.iconst 1, 1) := by decide +kernel
theorem dX2_healAll_40 : decode cX2_healAll 40 = .ok (.isub, 1) := by decide +kernel
theorem dX2_healAll_41 : decode cX2_healAll 41 = .ok (.iastore, 1) := by decide +kernel
theorem dX2_healAll_42 : decode cX2_healAll 42 = .ok (.iinc 1 1, 3) := by decide +kernel
theorem dX2_healAll_45 : decode cX2_healAll 45 = .ok (.goto (-43), 3) := by decide +kernel
theorem dX2_healAll_48 : decode cX2_healAll 48 = .ok (.return_, 1) := by decide +kernel
theorem dX3_init_0 : decode cX3_init 0 = .ok (.aload_n 0, 1) := by decide +kernel
theorem dX3_init_1 : decode cX3_init 1 = .ok (.invokespecial 3, 3) := by decide +kernel
theorem dX3_init_4 : decode cX3_init 4 = .ok (.aload_n 0, 1) := by decide +kernel
theorem dX3_init_5 : decode cX3_init 5 = .ok (.iconst 4, 1) := by decide +kernel
theorem dX3_init_6 : decode cX3_init 6 = .ok (.newarray .int, 2) := by decide +kernel
theorem dX3_init_8 : decode cX3_init 8 = .ok (.putfield 9, 3) := by decide +kernel
theorem dX3_init_11 : decode cX3_init 11 = .ok (.aload_n 0, 1) := by decide +kernel
theorem dX3_init_12 : decode cX3_init 12 = .ok (.aload_n 1, 1) := by decide +kernel
theorem dX3_init_13 : decode cX3_init 13 = .ok (.putfield 15, 3) := by decide +kernel
theorem dX3_init_16 : decode cX3_init 16 = .ok (.aload_n 0, 1) := by decide +kernel
theorem dX3_init_17 : decode cX3_init 17 = .ok (.aload_n 2, 1) := by decide +kernel
theorem dX3_init_18 : decode cX3_init 18 = .ok (.putfield 19, 3) := by decide +kernel
theorem dX3_init_21 : decode cX3_init 21 = .ok (.return_, 1) := by decide +kernel
theorem dX3_mileIn_0 : decode cX3_mileIn 0 = .ok (.aload_n 0, 1) := by decide +kernel
theorem dX3_mileIn_1 : decode cX3_mileIn 1 = .ok (.getfield 19, 3) := by decide +kernel
theorem dX3_mileIn_4 : decode cX3_mileIn 4 = .ok (.aload_n 0, 1) := by decide +kernel
theorem dX3_mileIn_5 : decode cX3_mileIn 5 = .ok (.getfield 15, 3) := by decide +kernel
theorem dX3_mileIn_8 : decode cX3_mileIn 8 = .ok (.invokevirtual 22, 3) := by decide +kernel
theorem dX3_mileIn_11 : decode cX3_mileIn 11 = .ok (.aload_n 0, 1) := by decide +kernel
theorem dX3_mileIn_12 : decode cX3_mileIn 12 = .ok (.getfield 19, 3) := by decide +kernel
theorem dX3_mileIn_15 : decode cX3_mileIn 15 = .ok (.iload_n 1, 1) := by decide +kernel
theorem dX3_mileIn_16 : decode cX3_mileIn 16 = .ok (.invokevirtual 28, 3) := by decide +kernel
theorem dX3_mileIn_19 : decode cX3_mileIn 19 = .ok (.aload_n 0, 1) := by decide +kernel
theorem dX3_mileIn_20 : decode cX3_mileIn 20 = .ok (.getfield 19, 3) := by decide +kernel
theorem dX3_mileIn_23 : decode cX3_mileIn 23 = .ok (.invokevirtual 32, 3) := by decide +kernel
theorem dX3_mileIn_26 : decode cX3_mileIn 26 = .ok (.ireturn, 1) := by decide +kernel
theorem dX3_leaderIn_0 : decode cX3_leaderIn 0 = .ok (.aload_n 0, 1) := by decide +kernel
theorem dX3_leaderIn_1 : decode cX3_leaderIn 1 = .ok (.getfield 19, 3) := by decide +kernel
theorem dX3_leaderIn_4 : decode cX3_leaderIn 4 = .ok (.aload_n 0, 1) := by decide +kernel
theorem dX3_leaderIn_5 : decode cX3_leaderIn 5 = .ok (.getfield 15, 3) := by decide +kernel
theorem dX3_leaderIn_8 : decode cX3_leaderIn 8 = .ok (.invokevirtual 22, 3) := by decide +kernel
theorem dX3_leaderIn_11 : decode cX3_leaderIn 11 = .ok (.aload_n 0, 1) := by decide +kernel
theorem dX3_leaderIn_12 : decode cX3_leaderIn 12 = .ok (.getfield 19, 3) := by decide +kernel
theorem dX3_leaderIn_15 : decode cX3_leaderIn 15 = .ok (.iload_n 1, 1) := by decide +kernel
theorem dX3_leaderIn_16 : decode cX3_leaderIn 16 = .ok (.invokevirtual 28, 3) := by decide +kernel
theorem dX3_leaderIn_19 : decode cX3_leaderIn 19 = .ok (.aload_n 0, 1) := by decide +kernel
theorem dX3_leaderIn_20 : decode cX3_leaderIn 20 = .ok (.getfield 19, 3) := by decide +kernel
theorem dX3_leaderIn_23 : decode cX3_leaderIn 23 = .ok (.invokevirtual 36, 3) := by decide +kernel
theorem dX3_leaderIn_26 : decode cX3_leaderIn 26 = .ok (.ireturn, 1) := by decide +kernel
theorem dX3_daysToEnd_0 : decode cX3_daysToEnd 0 = .ok (.aload_n 0, 1) := by decide +kernel
theorem dX3_daysToEnd_1 : decode cX3_daysToEnd 1 = .ok (.getfield 19, 3) := by decide +kernel
theorem dX3_daysToEnd_4 : decode cX3_daysToEnd 4 = .ok (.aload_n 0, 1) := by decide +kernel
theorem dX3_daysToEnd_5 : decode cX3_daysToEnd 5 = .ok (.getfield 15, 3) := by decide +kernel
theorem dX3_daysToEnd_8 : decode cX3_daysToEnd 8 = .ok (.invokevirtual 22, 3) := by decide +kernel
theorem dX3_daysToEnd_11 : decode cX3_daysToEnd 11 = .ok (.aload_n 0, 1) := by decide +kernel
theorem dX3_daysToEnd_12 : decode cX3_daysToEnd 12 = .ok (.getfield 19, 3) := by decide +kernel
theorem dX3_daysToEnd_15 : decode cX3_daysToEnd 15 = .ok (.bipush 60, 2) := by decide +kernel
theorem dX3_daysToEnd_17 : decode cX3_daysToEnd 17 = .ok (.invokevirtual 39, 3) := by decide +kernel
theorem dX3_daysToEnd_20 : decode cX3_daysToEnd 20 = .ok (.ireturn, 1) := by decide +kernel
theorem dX3_daysToLead_0 : decode cX3_daysToLead 0 = .ok (.aload_n 0, 1) := by decide +kernel
theorem dX3_daysToLead_1 : decode cX3_daysToLead 1 = .ok (.getfield 19, 3) := by decide +kernel
theorem dX3_daysToLead_4 : decode cX3_daysToLead 4 = .ok (.aload_n 0, 1) := by decide +kernel
theorem dX3_daysToLead_5 : decode cX3_daysToLead 5 = .ok (.getfield 15, 3) := by decide +kernel
theorem dX3_daysToLead_8 : decode cX3_daysToLead 8 = .ok (.invokevirtual 22, 3) := by decide +kernel
theorem dX3_daysToLead_11 : decode cX3_daysToLead 11 = .ok (.iconst 0, 1) := by decide +kernel
theorem dX3_daysToLead_12 : decode cX3_daysToLead 12 = .ok (.istore_n 2, 1) := by decide +kernel
theorem dX3_daysToLead_13 : decode cX3_daysToLead 13 = .ok (.iload_n 2, 1) := by decide +kernel
theorem dX3_daysToLead_14 : decode cX3_daysToLead 14 = .ok (.bipush 40, 2) := by decide +kernel
theorem dX3_daysToLead_16 : decode cX3_daysToLead 16 = .ok (.if_icmp .gt 30, 3) := by decide +kernel
theorem dX3_daysToLead_19 : decode cX3_daysToLead 19 = .ok (.aload_n 0, 1) := by decide +kernel
theorem dX3_daysToLead_20 : decode cX3_daysToLead 20 = .ok (.getfield 19, 3) := by decide +kernel
theorem dX3_daysToLead_23 : decode cX3_daysToLead 23 = .ok (.invokevirtual 36, 3) := by decide +kernel
theorem dX3_daysToLead_26 : decode cX3_daysToLead 26 = .ok (.iload_n 1, 1) := by decide +kernel
theorem dX3_daysToLead_27 : decode cX3_daysToLead 27 = .ok (.if_icmp .ne 5, 3) := by decide +kernel
theorem dX3_daysToLead_30 : decode cX3_daysToLead 30 = .ok (.iload_n 2, 1) := by decide +kernel
theorem dX3_daysToLead_31 : decode cX3_daysToLead 31 = .ok (.ireturn, 1) := by decide +kernel
theorem dX3_daysToLead_32 : decode cX3_daysToLead 32 = .ok (.aload_n 0, 1) := by decide +kernel
theorem dX3_daysToLead_33 : decode cX3_daysToLead 33 = .ok (.getfield 19, 3) := by decide +kernel
theorem dX3_daysToLead_36 : decode cX3_daysToLead 36 = .ok (.invokevirtual 43, 3) := by decide +kernel
theorem dX3_daysToLead_39 : decode cX3_daysToLead 39 = .ok (.pop, 1) := by decide +kernel
theorem dX3_daysToLead_40 : decode cX3_daysToLead 40 = .ok (.iinc 2 1, 3) := by decide +kernel
theorem dX3_daysToLead_43 : decode cX3_daysToLead 43 = .ok (.goto (-30), 3) := by decide +kernel
theorem dX3_daysToLead_46 : decode cX3_daysToLead 46 = .ok (.bipush (-9), 2) := by decide +kernel
theorem dX3_daysToLead_48 : decode cX3_daysToLead 48 = .ok (.ireturn, 1) := by decide +kernel
theorem dX3_bestCure_0 : decode cX3_bestCure 0 = .ok (.bipush (-9), 2) := by decide +kernel
theorem dX3_bestCure_2 : decode cX3_bestCure 2 = .ok (.istore_n 2, 1) := by decide +kernel
theorem dX3_bestCure_3 : decode cX3_bestCure 3 = .ok (.bipush (-9), 2) := by decide +kernel
theorem dX3_bestCure_5 : decode cX3_bestCure 5 = .ok (.istore_n 3, 1) := by decide +kernel
theorem dX3_bestCure_6 : decode cX3_bestCure 6 = .ok (.iconst 0, 1) := by decide +kernel
theorem dX3_bestCure_7 : decode cX3_bestCure 7 = .ok (.istore 4, 2) := by decide +kernel
theorem dX3_bestCure_9 : decode cX3_bestCure 9 = .ok (.iload 4, 2) := by decide +kernel
theorem dX3_bestCure_11 : decode cX3_bestCure 11 = .ok (.aload_n 0, 1) := by decide +kernel
theorem dX3_bestCure_12 : decode cX3_bestCure 12 = .ok (.getfield 15, 3) := by decide +kernel
theorem dX3_bestCure_15 : decode cX3_bestCure 15 = .ok (.invokevirtual 46, 3) := by decide +kernel
theorem dX3_bestCure_18 : decode cX3_bestCure 18 = .ok (.if_icmp .ge 59, 3) := by decide +kernel
theorem dX3_bestCure_21 : decode cX3_bestCure 21 = .ok (.aload_n 0, 1) := by decide +kernel
theorem dX3_bestCure_22 : decode cX3_bestCure 22 = .ok (.getfield 15, 3) := by decide +kernel
theorem dX3_bestCure_25 : decode cX3_bestCure 25 = .ok (.iload 4, 2) := by decide +kernel
theorem dX3_bestCure_27 : decode cX3_bestCure 27 = .ok (.invokevirtual 49, 3) := by decide +kernel
theorem dX3_bestCure_30 : decode cX3_bestCure 30 = .ok (.ifCond .eq 12, 3) := by decide +kernel
theorem dX3_bestCure_33 : decode cX3_bestCure 33 = .ok (.aload_n 0, 1) := by decide +kernel
theorem dX3_bestCure_34 : decode cX3_bestCure 34 = .ok (.iload 4, 2) := by decide +kernel
theorem dX3_bestCure_36 : decode cX3_bestCure 36 = .ok (.invokevirtual 53, 3) := by decide +kernel
theorem dX3_bestCure_39 : decode cX3_bestCure 39 = .ok (.goto 5, 3) := by decide +kernel
theorem dX3_bestCure_42 : decode cX3_bestCure 42 = .ok (.bipush (-9), 2) := by decide +kernel
theorem dX3_bestCure_44 : decode cX3_bestCure 44 = .ok (.istore 5, 2) := by decide +kernel
theorem dX3_bestCure_46 : decode cX3_bestCure 46 = .ok (.iload 5, 2) := by decide +kernel
theorem dX3_bestCure_48 : decode cX3_bestCure 48 = .ok (.bipush (-9), 2) := by decide +kernel
theorem dX3_bestCure_50 : decode cX3_bestCure 50 = .ok (.if_icmp .eq 21, 3) := by decide +kernel
theorem dX3_bestCure_53 : decode cX3_bestCure 53 = .ok (.iload_n 2, 1) := by decide +kernel
theorem dX3_bestCure_54 : decode cX3_bestCure 54 = .ok (.bipush (-9), 2) := by decide +kernel
theorem dX3_bestCure_56 : decode cX3_bestCure 56 = .ok (.if_icmp .eq 9, 3) := by decide +kernel
theorem dX3_bestCure_59 : decode cX3_bestCure 59 = .ok (.iload 5, 2) := by decide +kernel
theorem dX3_bestCure_61 : decode cX3_bestCure 61 = .ok (.iload_n 3, 1) := by decide +kernel
theorem dX3_bestCure_62 : decode cX3_bestCure 62 = .ok (.if_icmp .ge 9, 3) := by decide +kernel
theorem dX3_bestCure_65 : decode cX3_bestCure 65 = .ok (.iload 4, 2) := by decide +kernel
theorem dX3_bestCure_67 : decode cX3_bestCure 67 = .ok (.istore_n 2, 1) := by decide +kernel
theorem dX3_bestCure_68 : decode cX3_bestCure 68 = .ok (.iload 5, 2) := by decide +kernel
theorem dX3_bestCure_70 : decode cX3_bestCure 70 = .ok (.istore_n 3, 1) := by decide +kernel
theorem dX3_bestCure_71 : decode cX3_bestCure 71 = .ok (.iinc 4 1, 3) := by decide +kernel
theorem dX3_bestCure_74 : decode cX3_bestCure 74 = .ok (.goto (-65), 3) := by decide +kernel
theorem dX3_bestCure_77 : decode cX3_bestCure 77 = .ok (.iload_n 1, 1) := by decide +kernel
theorem dX3_bestCure_78 : decode cX3_bestCure 78 = .ok (.ifCond .eq 7, 3) := by decide +kernel
theorem dX3_bestCure_81 : decode cX3_bestCure 81 = .ok (.iload_n 2, 1) := by decide +kernel
theorem dX3_bestCure_82 : decode cX3_bestCure 82 = .ok (.goto 4, 3) := by decide +kernel
theorem dX3_bestCure_85 : decode cX3_bestCure 85 = .ok (.iload_n 3, 1) := by decide +kernel
theorem dX3_bestCure_86 : decode cX3_bestCure 86 = .ok (.ireturn, 1) := by decide +kernel
theorem dX3_daysIfEased_0 : decode cX3_daysIfEased 0 = .ok (.aload_n 0, 1) := by decide +kernel
theorem dX3_daysIfEased_1 : decode cX3_daysIfEased 1 = .ok (.getfield 19, 3) := by decide +kernel
theorem dX3_daysIfEased_4 : decode cX3_daysIfEased 4 = .ok (.aload_n 0, 1) := by decide +kernel
theorem dX3_daysIfEased_5 : decode cX3_daysIfEased 5 = .ok (.getfield 15, 3) := by decide +kernel
theorem dX3_daysIfEased_8 : decode cX3_daysIfEased 8 = .ok (.invokevirtual 22, 3) := by decide +kernel
theorem dX3_daysIfEased_11 : decode cX3_daysIfEased 11 = .ok (.aload_n 0, 1) := by decide +kernel
theorem dX3_daysIfEased_12 : decode cX3_daysIfEased 12 = .ok (.getfield 19, 3) := by decide +kernel
theorem dX3_daysIfEased_15 : decode cX3_daysIfEased 15 = .ok (.iload_n 1, 1) := by decide +kernel
theorem dX3_daysIfEased_16 : decode cX3_daysIfEased 16 = .ok (.invokevirtual 56, 3) := by decide +kernel
theorem dX3_daysIfEased_19 : decode cX3_daysIfEased 19 = .ok (.aload_n 0, 1) := by decide +kernel
theorem dX3_daysIfEased_20 : decode cX3_daysIfEased 20 = .ok (.getfield 19, 3) := by decide +kernel
theorem dX3_daysIfEased_23 : decode cX3_daysIfEased 23 = .ok (.bipush 60, 2) := by decide +kernel
theorem dX3_daysIfEased_25 : decode cX3_daysIfEased 25 = .ok (.invokevirtual 39, 3) := by decide +kernel
theorem dX3_daysIfEased_28 : decode cX3_daysIfEased 28 = .ok (.ireturn, 1) := by decide +kernel
theorem dX3_fewestPulls_0 : decode cX3_fewestPulls 0 = .ok (.bipush (-9), 2) := by decide +kernel
theorem dX3_fewestPulls_2 : decode cX3_fewestPulls 2 = .ok (.istore_n 2, 1) := by decide +kernel
theorem dX3_fewestPulls_3 : decode cX3_fewestPulls 3 = .ok (.iconst 0, 1) := by decide +kernel
theorem dX3_fewestPulls_4 : decode cX3_fewestPulls 4 = .ok (.istore_n 3, 1) := by decide +kernel
theorem dX3_fewestPulls_5 : decode cX3_fewestPulls 5 = .ok (.iconst 4, 1) := by decide +kernel
theorem dX3_fewestPulls_6 : decode cX3_fewestPulls 6 = .ok (.aload_n 0, 1) := by decide +kernel
theorem dX3_fewestPulls_7 : decode cX3_fewestPulls 7 = .ok (.getfield 15, 3) := by decide +kernel
theorem dX3_fewestPulls_10 : decode cX3_fewestPulls 10 = .ok (.invokevirtual 46, 3) := by decide +kernel
theorem dX3_fewestPulls_13 : decode cX3_fewestPulls 13 = .ok (.invokestatic 59, 3) := by decide +kernel
theorem dX3_fewestPulls_16 : decode cX3_fewestPulls 16 = .ok (.istore 4, 2) := by decide +kernel
theorem dX3_fewestPulls_18 : decode cX3_fewestPulls 18 = .ok (.iconst 0, 1) := by decide +kernel
theorem dX3_fewestPulls_19 : decode cX3_fewestPulls 19 = .ok (.istore 5, 2) := by decide +kernel
theorem dX3_fewestPulls_21 : decode cX3_fewestPulls 21 = .ok (.iload 5, 2) := by decide +kernel
theorem dX3_fewestPulls_23 : decode cX3_fewestPulls 23 = .ok (.iload 4, 2) := by decide +kernel
theorem dX3_fewestPulls_25 : decode cX3_fewestPulls 25 = .ok (.if_icmp .ge 54, 3) := by decide +kernel
theorem dX3_fewestPulls_28 : decode cX3_fewestPulls 28 = .ok (.aload_n 0, 1) := by decide +kernel
theorem dX3_fewestPulls_29 : decode cX3_fewestPulls 29 = .ok (.iload 5, 2) := by decide +kernel
theorem dX3_fewestPulls_31 : decode cX3_fewestPulls 31 = .ok (.invokevirtual 63, 3) := by decide +kernel
theorem dX3_fewestPulls_34 : decode cX3_fewestPulls 34 = .ok (.istore 6, 2) := by decide +kernel
theorem dX3_fewestPulls_36 : decode cX3_fewestPulls 36 = .ok (.iload_n 2, 1) := by decide +kernel
theorem dX3_fewestPulls_37 : decode cX3_fewestPulls 37 = .ok (.bipush (-9), 2) := by decide +kernel
theorem dX3_fewestPulls_39 : decode cX3_fewestPulls 39 = .ok (.if_icmp .eq 9, 3) := by decide +kernel
theorem dX3_fewestPulls_42 : decode cX3_fewestPulls 42 = .ok (.iload 6, 2) := by decide +kernel
theorem dX3_fewestPulls_44 : decode cX3_fewestPulls 44 = .ok (.iload_n 3, 1) := by decide +kernel
theorem dX3_fewestPulls_45 : decode cX3_fewestPulls 45 = .ok (.if_icmp .ge 28, 3) := by decide +kernel
theorem dX3_fewestPulls_48 : decode cX3_fewestPulls 48 = .ok (.aload_n 0, 1) := by decide +kernel
theorem dX3_fewestPulls_49 : decode cX3_fewestPulls 49 = .ok (.iload 5, 2) := by decide +kernel
theorem dX3_fewestPulls_51 : decode cX3_fewestPulls 51 = .ok (.invokevirtual 66, 3) := by decide +kernel
theorem dX3_fewestPulls_54 : decode cX3_fewestPulls 54 = .ok (.ifCond .eq 19, 3) := by decide +kernel
theorem dX3_fewestPulls_57 : decode cX3_fewestPulls 57 = .ok (.aload_n 0, 1) := by decide +kernel
theorem dX3_fewestPulls_58 : decode cX3_fewestPulls 58 = .ok (.iload 5, 2) := by decide +kernel
theorem dX3_fewestPulls_60 : decode cX3_fewestPulls 60 = .ok (.iload_n 1, 1) := by decide +kernel
theorem dX3_fewestPulls_61 : decode cX3_fewestPulls 61 = .ok (.invokevirtual 69, 3) := by decide +kernel
theorem dX3_fewestPulls_64 : decode cX3_fewestPulls 64 = .ok (.ifCond .eq 9, 3) := by decide +kernel
theorem dX3_fewestPulls_67 : decode cX3_fewestPulls 67 = .ok (.iload 5, 2) := by decide +kernel
theorem dX3_fewestPulls_69 : decode cX3_fewestPulls 69 = .ok (.istore_n 2, 1) := by decide +kernel
theorem dX3_fewestPulls_70 : decode cX3_fewestPulls 70 = .ok (.iload 6, 2) := by decide +kernel
theorem dX3_fewestPulls_72 : decode cX3_fewestPulls 72 = .ok (.istore_n 3, 1) := by decide +kernel
theorem dX3_fewestPulls_73 : decode cX3_fewestPulls 73 = .ok (.iinc 5 1, 3) := by decide +kernel
theorem dX3_fewestPulls_76 : decode cX3_fewestPulls 76 = .ok (.goto (-55), 3) := by decide +kernel
theorem dX3_fewestPulls_79 : decode cX3_fewestPulls 79 = .ok (.iload_n 2, 1) := by decide +kernel
theorem dX3_fewestPulls_80 : decode cX3_fewestPulls 80 = .ok (.ireturn, 1) := by decide +kernel
theorem dX3_pullsOf_0 : decode cX3_pullsOf 0 = .ok (.iload_n 2, 1) := by decide +kernel
theorem dX3_pullsOf_1 : decode cX3_pullsOf 1 = .ok (.iconst 2, 1) := by decide +kernel
theorem dX3_pullsOf_2 : decode cX3_pullsOf 2 = .ok (.aload_n 0, 1) := by decide +kernel
theorem dX3_pullsOf_3 : decode cX3_pullsOf 3 = .ok (.getfield 15, 3) := by decide +kernel
theorem dX3_pullsOf_6 : decode cX3_pullsOf 6 = .ok (.invokevirtual 46, 3) := by decide +kernel
theorem dX3_pullsOf_9 : decode cX3_pullsOf 9 = .ok (.iconst 1, 1) := by decide +kernel
theorem dX3_pullsOf_10 : decode cX3_pullsOf 10 = .ok (.isub, 1) := by decide +kernel
theorem dX3_pullsOf_11 : decode cX3_pullsOf 11 = .ok (.iload_n 1, 1) := by decide +kernel
theorem dX3_pullsOf_12 : decode cX3_pullsOf 12 = .ok (.isub, 1) := by decide +kernel
theorem dX3_pullsOf_13 : decode cX3_pullsOf 13 = .ok (.imul, 1) := by decide +kernel
theorem dX3_pullsOf_14 : decode cX3_pullsOf 14 = .ok (.ishr, 1) := by decide +kernel
theorem dX3_pullsOf_15 : decode cX3_pullsOf 15 = .ok (.iconst 3, 1) := by decide +kernel
theorem dX3_pullsOf_16 : decode cX3_pullsOf 16 = .ok (.iand, 1) := by decide +kernel
theorem dX3_pullsOf_17 : decode cX3_pullsOf 17 = .ok (.ireturn, 1) := by decide +kernel
theorem dX3_canPull_0 : decode cX3_canPull 0 = .ok (.iconst 0, 1) := by decide +kernel
theorem dX3_canPull_1 : decode cX3_canPull 1 = .ok (.istore_n 2, 1) := by decide +kernel
theorem dX3_canPull_2 : decode cX3_canPull 2 = .ok (.iload_n 2, 1) := by decide +kernel
theorem dX3_canPull_3 : decode cX3_canPull 3 = .ok (.aload_n 0, 1) := by decide +kernel
theorem dX3_canPull_4 : decode cX3_canPull 4 = .ok (.getfield 15, 3) := by decide +kernel
theorem dX3_canPull_7 : decode cX3_canPull 7 = .ok (.invokevirtual 46, 3) := by decide +kernel
theorem dX3_canPull_10 : decode cX3_canPull 10 = .ok (.if_icmp .ge 28, 3) := by decide +kernel
theorem dX3_canPull_13 : decode cX3_canPull 13 = .ok (.aload_n 0, 1) := by decide +kernel
theorem dX3_canPull_14 : decode cX3_canPull 14 = .ok (.iload_n 2, 1) := by decide +kernel
theorem dX3_canPull_15 : decode cX3_canPull 15 = .ok (.iload_n 1, 1) := by decide +kernel
theorem dX3_canPull_16 : decode cX3_canPull 16 = .ok (.invokevirtual 73, 3) := by decide +kernel
theorem dX3_canPull_19 : decode cX3_canPull 19 = .ok (.aload_n 0, 1) := by decide +kernel
theorem dX3_canPull_20 : decode cX3_canPull 20 = .ok (.getfield 15, 3) := by decide +kernel
theorem dX3_canPull_23 : decode cX3_canPull 23 = .ok (.iload_n 2, 1) := by decide +kernel
theorem dX3_canPull_24 : decode cX3_canPull 24 = .ok (.invokevirtual 76, 3) := by decide +kernel
theorem dX3_canPull_27 : decode cX3_canPull 27 = .ok (.if_icmp .le 5, 3) := by decide +kernel
theorem dX3_canPull_30 : decode cX3_canPull 30 = .ok (.iconst 0, 1) := by decide +kernel
theorem dX3_canPull_31 : decode cX3_canPull 31 = .ok (.ireturn, 1) := by decide +kernel
theorem dX3_canPull_32 : decode cX3_canPull 32 = .ok (.iinc 2 1, 3) := by decide +kernel
theorem dX3_canPull_35 : decode cX3_canPull 35 = .ok (.goto (-33), 3) := by decide +kernel
theorem dX3_canPull_38 : decode cX3_canPull 38 = .ok (.iconst 1, 1) := by decide +kernel
theorem dX3_canPull_39 : decode cX3_canPull 39 = .ok (.ireturn, 1) := by decide +kernel
theorem dX3_isInTime_0 : decode cX3_isInTime 0 = .ok (.aload_n 0, 1) := by decide +kernel
theorem dX3_isInTime_1 : decode cX3_isInTime 1 = .ok (.getfield 19, 3) := by decide +kernel
theorem dX3_isInTime_4 : decode cX3_isInTime 4 = .ok (.aload_n 0, 1) := by decide +kernel
theorem dX3_isInTime_5 : decode cX3_isInTime 5 = .ok (.getfield 15, 3) := by decide +kernel
theorem dX3_isInTime_8 : decode cX3_isInTime 8 = .ok (.invokevirtual 22, 3) := by decide +kernel
theorem dX3_isInTime_11 : decode cX3_isInTime 11 = .ok (.iconst 0, 1) := by decide +kernel
theorem dX3_isInTime_12 : decode cX3_isInTime 12 = .ok (.istore_n 3, 1) := by decide +kernel
theorem dX3_isInTime_13 : decode cX3_isInTime 13 = .ok (.iload_n 3, 1) := by decide +kernel
theorem dX3_isInTime_14 : decode cX3_isInTime 14 = .ok (.aload_n 0, 1) := by decide +kernel
theorem dX3_isInTime_15 : decode cX3_isInTime 15 = .ok (.getfield 15, 3) := by decide +kernel
theorem dX3_isInTime_18 : decode cX3_isInTime 18 = .ok (.invokevirtual 46, 3) := by decide +kernel
theorem dX3_isInTime_21 : decode cX3_isInTime 21 = .ok (.if_icmp .ge 23, 3) := by decide +kernel
theorem dX3_isInTime_24 : decode cX3_isInTime 24 = .ok (.aload_n 0, 1) := by decide +kernel
theorem dX3_isInTime_25 : decode cX3_isInTime 25 = .ok (.getfield 19, 3) := by decide +kernel
theorem dX3_isInTime_28 : decode cX3_isInTime 28 = .ok (.iload_n 3, 1) := by decide +kernel
theorem dX3_isInTime_29 : decode cX3_isInTime 29 = .ok (.aload_n 0, 1) := by decide +kernel
theorem dX3_isInTime_30 : decode cX3_isInTime 30 = .ok (.iload_n 3, 1) := by decide +kernel
theorem dX3_isInTime_31 : decode cX3_isInTime 31 = .ok (.iload_n 1, 1) := by decide +kernel
theorem dX3_isInTime_32 : decode cX3_isInTime 32 = .ok (.invokevirtual 73, 3) := by decide +kernel
theorem dX3_isInTime_35 : decode cX3_isInTime 35 = .ok (.invokevirtual 79, 3) := by decide +kernel
theorem dX3_isInTime_38 : decode cX3_isInTime 38 = .ok (.iinc 3 1, 3) := by decide +kernel
theorem dX3_isInTime_41 : decode cX3_isInTime 41 = .ok (.goto (-28), 3) := by decide +kernel
theorem dX3_isInTime_44 : decode cX3_isInTime 44 = .ok (.aload_n 0, 1) := by decide +kernel
theorem dX3_isInTime_45 : decode cX3_isInTime 45 = .ok (.getfield 19, 3) := by decide +kernel
theorem dX3_isInTime_48 : decode cX3_isInTime 48 = .ok (.iload_n 2, 1) := by decide +kernel
theorem dX3_isInTime_49 : decode cX3_isInTime 49 = .ok (.invokevirtual 39, 3) := by decide +kernel
theorem dX3_isInTime_52 : decode cX3_isInTime 52 = .ok (.bipush (-9), 2) := by decide +kernel
theorem dX3_isInTime_54 : decode cX3_isInTime 54 = .ok (.if_icmp .eq 7, 3) := by decide +kernel
theorem dX3_isInTime_57 : decode cX3_isInTime 57 = .ok (.iconst 1, 1) := by decide +kernel
theorem dX3_isInTime_58 : decode cX3_isInTime 58 = .ok (.goto 4, 3) := by decide +kernel
theorem dX3_isInTime_61 : decode cX3_isInTime 61 = .ok (.iconst 0, 1) := by decide +kernel
theorem dX3_isInTime_62 : decode cX3_isInTime 62 = .ok (.ireturn, 1) := by decide +kernel
theorem dX3_pullsInAll_0 : decode cX3_pullsInAll 0 = .ok (.iconst 0, 1) := by decide +kernel
theorem dX3_pullsInAll_1 : decode cX3_pullsInAll 1 = .ok (.istore_n 2, 1) := by decide +kernel
theorem dX3_pullsInAll_2 : decode cX3_pullsInAll 2 = .ok (.iconst 0, 1) := by decide +kernel
theorem dX3_pullsInAll_3 : decode cX3_pullsInAll 3 = .ok (.istore_n 3, 1) := by decide +kernel
theorem dX3_pullsInAll_4 : decode cX3_pullsInAll 4 = .ok (.iload_n 3, 1) := by decide +kernel
theorem dX3_pullsInAll_5 : decode cX3_pullsInAll 5 = .ok (.aload_n 0, 1) := by decide +kernel
theorem dX3_pullsInAll_6 : decode cX3_pullsInAll 6 = .ok (.getfield 15, 3) := by decide +kernel
theorem dX3_pullsInAll_9 : decode cX3_pullsInAll 9 = .ok (.invokevirtual 46, 3) := by decide +kernel
theorem dX3_pullsInAll_12 : decode cX3_pullsInAll 12 = .ok (.if_icmp .ge 18, 3) := by decide +kernel
theorem dX3_pullsInAll_15 : decode cX3_pullsInAll 15 = .ok (.iload_n 2, 1) := by decide +kernel
theorem dX3_pullsInAll_16 : decode cX3_pullsInAll 16 = .ok (.aload_n 0, 1) := by decide +kernel
theorem dX3_pullsInAll_17 : decode cX3_pullsInAll 17 = .ok (.iload_n 3, 1) := by decide +kernel
theorem dX3_pullsInAll_18 : decode cX3_pullsInAll 18 = .ok (.iload_n 1, 1) := by decide +kernel
theorem dX3_pullsInAll_19 : decode cX3_pullsInAll 19 = .ok (.invokevirtual 73, 3) := by decide +kernel
theorem dX3_pullsInAll_22 : decode cX3_pullsInAll 22 = .ok (.iadd, 1) := by decide +kernel
theorem dX3_pullsInAll_23 : decode cX3_pullsInAll 23 = .ok (.istore_n 2, 1) := by decide +kernel
theorem dX3_pullsInAll_24 : decode cX3_pullsInAll 24 = .ok (.iinc 3 1, 3) := by decide +kernel
theorem dX3_pullsInAll_27 : decode cX3_pullsInAll 27 = .ok (.goto (-23), 3) := by decide +kernel
theorem dX3_pullsInAll_30 : decode cX3_pullsInAll 30 = .ok (.iload_n 2, 1) := by decide +kernel
theorem dX3_pullsInAll_31 : decode cX3_pullsInAll 31 = .ok (.ireturn, 1) := by decide +kernel
theorem dX3_pullFigures_0 : decode cX3_pullFigures 0 = .ok (.iconst 0, 1) := by decide +kernel
theorem dX3_pullFigures_1 : decode cX3_pullFigures 1 = .ok (.istore_n 2, 1) := by decide +kernel
theorem dX3_pullFigures_2 : decode cX3_pullFigures 2 = .ok (.iconst 0, 1) := by decide +kernel
theorem dX3_pullFigures_3 : decode cX3_pullFigures 3 = .ok (.istore_n 3, 1) := by decide +kernel
theorem dX3_pullFigures_4 : decode cX3_pullFigures 4 = .ok (.iload_n 3, 1) := by decide +kernel
theorem dX3_pullFigures_5 : decode cX3_pullFigures 5 = .ok (.aload_n 0, 1) := by decide +kernel
theorem dX3_pullFigures_6 : decode cX3_pullFigures 6 = .ok (.getfield 15, 3) := by decide +kernel
theorem dX3_pullFigures_9 : decode cX3_pullFigures 9 = .ok (.invokevirtual 46, 3) := by decide +kernel
theorem dX3_pullFigures_12 : decode cX3_pullFigures 12 = .ok (.if_icmp .ge 21, 3) := by decide +kernel
theorem dX3_pullFigures_15 : decode cX3_pullFigures 15 = .ok (.bipush 10, 2) := by decide +kernel
theorem dX3_pullFigures_17 : decode cX3_pullFigures 17 = .ok (.iload_n 2, 1) := by decide +kernel
theorem dX3_pullFigures_18 : decode cX3_pullFigures 18 = .ok (.imul, 1) := by decide +kernel
theorem dX3_pullFigures_19 : decode cX3_pullFigures 19 = .ok (.aload_n 0, 1) := by decide +kernel
theorem dX3_pullFigures_20 : decode cX3_pullFigures 20 = .ok (.iload_n 3, 1) := by decide +kernel
theorem dX3_pullFigures_21 : decode cX3_pullFigures 21 = .ok (.iload_n 1, 1) := by decide +kernel
theorem dX3_pullFigures_22 : decode cX3_pullFigures 22 = .ok (.invokevirtual 73, 3) := by decide +kernel
theorem dX3_pullFigures_25 : decode cX3_pullFigures 25 = .ok (.iadd, 1) := by decide +kernel
theorem dX3_pullFigures_26 : decode cX3_pullFigures 26 = .ok (.istore_n 2, 1) := by decide +kernel
theorem dX3_pullFigures_27 : decode cX3_pullFigures 27 = .ok (.iinc 3 1, 3) := by decide +kernel
theorem dX3_pullFigures_30 : decode cX3_pullFigures 30 = .ok (.goto (-26), 3) := by decide +kernel
theorem dX3_pullFigures_33 : decode cX3_pullFigures 33 = .ok (.iload_n 2, 1) := by decide +kernel
theorem dX3_pullFigures_34 : decode cX3_pullFigures 34 = .ok (.ireturn, 1) := by decide +kernel
theorem dX3_firstImpossible_0 : decode cX3_firstImpossible 0 = .ok (.lload_n 2, 1) := by decide +kernel
theorem dX3_firstImpossible_1 : decode cX3_firstImpossible 1 = .ok (.lstore 4, 2) := by decide +kernel
theorem dX3_firstImpossible_3 : decode cX3_firstImpossible 3 = .ok (.iload_n 1, 1) := by decide +kernel
theorem dX3_firstImpossible_4 : decode cX3_firstImpossible 4 = .ok (.aload_n 0, 1) := by decide +kernel
theorem dX3_firstImpossible_5 : decode cX3_firstImpossible 5 = .ok (.getfield 9, 3) := by decide +kernel
theorem dX3_firstImpossible_8 : decode cX3_firstImpossible 8 = .ok (.arraylength, 1) := by decide +kernel
theorem dX3_firstImpossible_9 : decode cX3_firstImpossible 9 = .ok (.invokestatic 83, 3) := by decide +kernel
theorem dX3_firstImpossible_12 : decode cX3_firstImpossible 12 = .ok (.iconst 1, 1) := by decide +kernel
theorem dX3_firstImpossible_13 : decode cX3_firstImpossible 13 = .ok (.isub, 1) := by decide +kernel
theorem dX3_firstImpossible_14 : decode cX3_firstImpossible 14 = .ok (.istore 6, 2) := by decide +kernel
theorem dX3_firstImpossible_16 : decode cX3_firstImpossible 16 = .ok (.iload 6, 2) := by decide +kernel
theorem dX3_firstImpossible_18 : decode cX3_firstImpossible 18 = .ok (.ifCond .lt 31, 3) := by decide +kernel
theorem dX3_firstImpossible_21 : decode cX3_firstImpossible 21 = .ok (.aload_n 0, 1) := by decide +kernel
theorem dX3_firstImpossible_22 : decode cX3_firstImpossible 22 = .ok (.getfield 9, 3) := by decide +kernel
theorem dX3_firstImpossible_25 : decode cX3_firstImpossible 25 = .ok (.iload 6, 2) := by decide +kernel
theorem dX3_firstImpossible_27 : decode cX3_firstImpossible 27 = .ok (.lload 4, 2) := by decide +kernel
theorem dX3_firstImpossible_29 : decode cX3_firstImpossible 29 = .ok (.ldc2_w 88, 3) := by decide +kernel
theorem dX3_firstImpossible_32 : decode cX3_firstImpossible 32 = .ok (.lrem, 1) := by decide +kernel
theorem dX3_firstImpossible_33 : decode cX3_firstImpossible 33 = .ok (.l2i, 1) := by decide +kernel
theorem dX3_firstImpossible_34 : decode cX3_firstImpossible 34 = .ok (.iastore, 1) := by decide +kernel
theorem dX3_firstImpossible_35 : decode cX3_firstImpossible 35 = .ok (.lload 4, 2) := by decide +kernel
theorem dX3_firstImpossible_37 : decode cX3_firstImpossible 37 = .ok (.ldc2_w 88, 3) := by decide +kernel
theorem dX3_firstImpossible_40 : decode cX3_firstImpossible 40 = .ok (.ldiv, 1) := by decide +kernel
theorem dX3_firstImpossible_41 : decode cX3_firstImpossible 41 = .ok (.lstore 4, 2) := by decide +kernel
theorem dX3_firstImpossible_43 : decode cX3_firstImpossible 43 = .ok (.iinc 6 (-1), 3) := by decide +kernel
theorem dX3_firstImpossible_46 : decode cX3_firstImpossible 46 = .ok (.goto (-30), 3) := by decide +kernel
theorem dX3_firstImpossible_49 : decode cX3_firstImpossible 49 = .ok (.aload_n 0, 1) := by decide +kernel
theorem dX3_firstImpossible_50 : decode cX3_firstImpossible 50 = .ok (.getfield 19, 3) := by decide +kernel
theorem dX3_firstImpossible_53 : decode cX3_firstImpossible 53 = .ok (.aload_n 0, 1) := by decide +kernel
theorem dX3_firstImpossible_54 : decode cX3_firstImpossible 54 = .ok (.getfield 15, 3) := by decide +kernel
theorem dX3_firstImpossible_57 : decode cX3_firstImpossible 57 = .ok (.invokevirtual 22, 3) := by decide +kernel
theorem dX3_firstImpossible_60 : decode cX3_firstImpossible 60 = .ok (.iconst 0, 1) := by decide +kernel
theorem dX3_firstImpossible_61 : decode cX3_firstImpossible 61 = .ok (.istore 6, 2) := by decide +kernel
theorem dX3_firstImpossible_63 : decode cX3_firstImpossible 63 = .ok (.iload 6, 2) := by decide +kernel
theorem dX3_firstImpossible_65 : decode cX3_firstImpossible 65 = .ok (.iload_n 1, 1) := by decide +kernel
theorem dX3_firstImpossible_66 : decode cX3_firstImpossible 66 = .ok (.if_icmp .ge 56, 3) := by decide +kernel
theorem dX3_firstImpossible_69 : decode cX3_firstImpossible 69 = .ok (.iload 6, 2) := by decide +kernel
theorem dX3_firstImpossible_71 : decode cX3_firstImpossible 71 = .ok (.aload_n 0, 1) := by decide +kernel
theorem dX3_firstImpossible_72 : decode cX3_firstImpossible 72 = .ok (.getfield 9, 3) := by decide +kernel
theorem dX3_firstImpossible_75 : decode cX3_firstImpossible 75 = .ok (.arraylength, 1) := by decide +kernel
theorem dX3_firstImpossible_76 : decode cX3_firstImpossible 76 = .ok (.if_icmp .ge 46, 3) := by decide +kernel
theorem dX3_firstImpossible_79 : decode cX3_firstImpossible 79 = .ok (.aload_n 0, 1) := by decide +kernel
theorem dX3_firstImpossible_80 : decode cX3_firstImpossible 80 = .ok (.getfield 9, 3) := by decide +kernel
theorem dX3_firstImpossible_83 : decode cX3_firstImpossible 83 = .ok (.iload 6, 2) := by decide +kernel
theorem dX3_firstImpossible_85 : decode cX3_firstImpossible 85 = .ok (.iaload, 1) := by decide +kernel
theorem dX3_firstImpossible_86 : decode cX3_firstImpossible 86 = .ok (.istore 7, 2) := by decide +kernel
theorem dX3_firstImpossible_88 : decode cX3_firstImpossible 88 = .ok (.aload_n 0, 1) := by decide +kernel
theorem dX3_firstImpossible_89 : decode cX3_firstImpossible 89 = .ok (.iload 7, 2) := by decide +kernel
theorem dX3_firstImpossible_91 : decode cX3_firstImpossible 91 = .ok (.bipush 100, 2) := by decide +kernel
theorem dX3_firstImpossible_93 : decode cX3_firstImpossible 93 = .ok (.idiv, 1) := by decide +kernel
theorem dX3_firstImpossible_94 : decode cX3_firstImpossible 94 = .ok (.iload 7, 2) := by decide +kernel
theorem dX3_firstImpossible_96 : decode cX3_firstImpossible 96 = .ok (.bipush 10, 2) := by decide +kernel
theorem dX3_firstImpossible_98 : decode cX3_firstImpossible 98 = .ok (.idiv, 1) := by decide +kernel
theorem dX3_firstImpossible_99 : decode cX3_firstImpossible 99 = .ok (.bipush 10, 2) := by decide +kernel
theorem dX3_firstImpossible_101 : decode cX3_firstImpossible 101 = .ok (.irem, 1) := by decide +kernel
theorem dX3_firstImpossible_102 : decode cX3_firstImpossible 102 = .ok (.iload 7, 2) := by decide +kernel
theorem dX3_firstImpossible_104 : decode cX3_firstImpossible 104 = .ok (.bipush 10, 2) := by decide +kernel
theorem dX3_firstImpossible_106 : decode cX3_firstImpossible 106 = .ok (.irem, 1) := by decide +kernel
theorem dX3_firstImpossible_107 : decode cX3_firstImpossible 107 = .ok (.invokevirtual 90, 3) := by decide +kernel
theorem dX3_firstImpossible_110 : decode cX3_firstImpossible 110 = .ok (.ifCond .ne 6, 3) := by decide +kernel
theorem dX3_firstImpossible_113 : decode cX3_firstImpossible 113 = .ok (.iload 6, 2) := by decide +kernel
theorem dX3_firstImpossible_115 : decode cX3_firstImpossible 115 = .ok (.ireturn, 1) := by decide +kernel
theorem dX3_firstImpossible_116 : decode cX3_firstImpossible 116 = .ok (.iinc 6 1, 3) := by decide +kernel
theorem dX3_firstImpossible_119 : decode cX3_firstImpossible 119 = .ok (.goto (-56), 3) := by decide +kernel
theorem dX3_firstImpossible_122 : decode cX3_firstImpossible 122 = .ok (.bipush (-9), 2) := by decide +kernel
theorem dX3_firstImpossible_124 : decode cX3_firstImpossible 124 = .ok (.ireturn, 1) := by decide +kernel
theorem dX3_does_0 : decode cX3_does 0 = .ok (.iload_n 1, 1) := by decide +kernel
theorem dX3_does_1 : decode cX3_does 1 = .ok (.iconst 5, 1) := by decide +kernel
theorem dX3_does_2 : decode cX3_does 2 = .ok (.if_icmp .ne 32, 3) := by decide +kernel
theorem dX3_does_5 : decode cX3_does 5 = .ok (.iload_n 2, 1) := by decide +kernel
theorem dX3_does_6 : decode cX3_does 6 = .ok (.aload_n 0, 1) := by decide +kernel
theorem dX3_does_7 : decode cX3_does 7 = .ok (.getfield 15, 3) := by decide +kernel
theorem dX3_does_10 : decode cX3_does 10 = .ok (.invokevirtual 46, 3) := by decide +kernel
theorem dX3_does_13 : decode cX3_does 13 = .ok (.if_icmp .ge 19, 3) := by decide +kernel
theorem dX3_does_16 : decode cX3_does 16 = .ok (.aload_n 0, 1) := by decide +kernel
theorem dX3_does_17 : decode cX3_does 17 = .ok (.getfield 19, 3) := by decide +kernel
theorem dX3_does_20 : decode cX3_does 20 = .ok (.iload_n 2, 1) := by decide +kernel
theorem dX3_does_21 : decode cX3_does 21 = .ok (.invokevirtual 76, 3) := by decide +kernel
theorem dX3_does_24 : decode cX3_does 24 = .ok (.iload_n 3, 1) := by decide +kernel
theorem dX3_does_25 : decode cX3_does 25 = .ok (.if_icmp .lt 7, 3) := by decide +kernel
theorem dX3_does_28 : decode cX3_does 28 = .ok (.iconst 1, 1) := by decide +kernel
theorem dX3_does_29 : decode cX3_does 29 = .ok (.goto 4, 3) := by decide +kernel
theorem dX3_does_32 : decode cX3_does 32 = .ok (.iconst 0, 1) := by decide +kernel
theorem dX3_does_33 : decode cX3_does 33 = .ok (.ireturn, 1) := by decide +kernel
theorem dX3_does_34 : decode cX3_does 34 = .ok (.iload_n 1, 1) := by decide +kernel
theorem dX3_does_35 : decode cX3_does 35 = .ok (.bipush 6, 2) := by decide +kernel
theorem dX3_does_37 : decode cX3_does 37 = .ok (.if_icmp .ne 25, 3) := by decide +kernel
theorem dX3_does_40 : decode cX3_does 40 = .ok (.aload_n 0, 1) := by decide +kernel
theorem dX3_does_41 : decode cX3_does 41 = .ok (.getfield 19, 3) := by decide +kernel
theorem dX3_does_44 : decode cX3_does 44 = .ok (.invokevirtual 32, 3) := by decide +kernel
theorem dX3_does_47 : decode cX3_does 47 = .ok (.bipush 10, 2) := by decide +kernel
theorem dX3_does_49 : decode cX3_does 49 = .ok (.iload_n 2, 1) := by decide +kernel
theorem dX3_does_50 : decode cX3_does 50 = .ok (.imul, 1) := by decide +kernel
theorem dX3_does_51 : decode cX3_does 51 = .ok (.iload_n 3, 1) := by decide +kernel
theorem dX3_does_52 : decode cX3_does 52 = .ok (.iadd, 1) := by decide +kernel
theorem dX3_does_53 : decode cX3_does 53 = .ok (.if_icmp .lt 7, 3) := by decide +kernel
theorem dX3_does_56 : decode cX3_does 56 = .ok (.iconst 1, 1) := by decide +kernel
theorem dX3_does_57 : decode cX3_does 57 = .ok (.goto 4, 3) := by decide +kernel
theorem dX3_does_60 : decode cX3_does 60 = .ok (.iconst 0, 1) := by decide +kernel
theorem dX3_does_61 : decode cX3_does 61 = .ok (.ireturn, 1) := by decide +kernel
theorem dX3_does_62 : decode cX3_does 62 = .ok (.iload_n 2, 1) := by decide +kernel
theorem dX3_does_63 : decode cX3_does 63 = .ok (.ifCond .ne 16, 3) := by decide +kernel
theorem dX3_does_66 : decode cX3_does 66 = .ok (.aload_n 0, 1) := by decide +kernel
theorem dX3_does_67 : decode cX3_does 67 = .ok (.iload_n 1, 1) := by decide +kernel
theorem dX3_does_68 : decode cX3_does 68 = .ok (.iload_n 3, 1) := by decide +kernel
theorem dX3_does_69 : decode cX3_does 69 = .ok (.invokevirtual 94, 3) := by decide +kernel
theorem dX3_does_72 : decode cX3_does 72 = .ok (.ifCond .eq 7, 3) := by decide +kernel
theorem dX3_does_75 : decode cX3_does 75 = .ok (.iconst 1, 1) := by decide +kernel
theorem dX3_does_76 : decode cX3_does 76 = .ok (.goto 4, 3) := by decide +kernel
theorem dX3_does_79 : decode cX3_does 79 = .ok (.iconst 0, 1) := by decide +kernel
theorem dX3_does_80 : decode cX3_does 80 = .ok (.ireturn, 1) := by decide +kernel
theorem dX3_doesPlain_0 : decode cX3_doesPlain 0 = .ok (.iload_n 1, 1) := by decide +kernel
theorem dX3_doesPlain_1 : decode cX3_doesPlain 1 = .ok (.tableswitch 125 0 4 #[35, 53, 70, 89, 108], 35) := by decide +kernel
theorem dX3_doesPlain_36 : decode cX3_doesPlain 36 = .ok (.aload_n 0, 1) := by decide +kernel
theorem dX3_doesPlain_37 : decode cX3_doesPlain 37 = .ok (.getfield 19, 3) := by decide +kernel
theorem dX3_doesPlain_40 : decode cX3_doesPlain 40 = .ok (.invokevirtual 43, 3) := by decide +kernel
theorem dX3_doesPlain_43 : decode cX3_doesPlain 43 = .ok (.pop, 1) := by decide +kernel
theorem dX3_doesPlain_44 : decode cX3_doesPlain 44 = .ok (.iload_n 2, 1) := by decide +kernel
theorem dX3_doesPlain_45 : decode cX3_doesPlain 45 = .ok (.ifCond .ne 7, 3) := by decide +kernel
theorem dX3_doesPlain_48 : decode cX3_doesPlain 48 = .ok (.iconst 1, 1) := by decide +kernel
theorem dX3_doesPlain_49 : decode cX3_doesPlain 49 = .ok (.goto 4, 3) := by decide +kernel
theorem dX3_doesPlain_52 : decode cX3_doesPlain 52 = .ok (.iconst 0, 1) := by decide +kernel
theorem dX3_doesPlain_53 : decode cX3_doesPlain 53 = .ok (.ireturn, 1) := by decide +kernel
theorem dX3_doesPlain_54 : decode cX3_doesPlain 54 = .ok (.aload_n 0, 1) := by decide +kernel
theorem dX3_doesPlain_55 : decode cX3_doesPlain 55 = .ok (.getfield 19, 3) := by decide +kernel
theorem dX3_doesPlain_58 : decode cX3_doesPlain 58 = .ok (.invokevirtual 97, 3) := by decide +kernel
theorem dX3_doesPlain_61 : decode cX3_doesPlain 61 = .ok (.iload_n 2, 1) := by decide +kernel
theorem dX3_doesPlain_62 : decode cX3_doesPlain 62 = .ok (.ifCond .ne 7, 3) := by decide +kernel
theorem dX3_doesPlain_65 : decode cX3_doesPlain 65 = .ok (.iconst 1, 1) := by decide +kernel
theorem dX3_doesPlain_66 : decode cX3_doesPlain 66 = .ok (.goto 4, 3) := by decide +kernel
theorem dX3_doesPlain_69 : decode cX3_doesPlain 69 = .ok (.iconst 0, 1) := by decide +kernel
theorem dX3_doesPlain_70 : decode cX3_doesPlain 70 = .ok (.ireturn, 1) := by decide +kernel
theorem dX3_doesPlain_71 : decode cX3_doesPlain 71 = .ok (.aload_n 0, 1) := by decide +kernel
theorem dX3_doesPlain_72 : decode cX3_doesPlain 72 = .ok (.getfield 19, 3) := by decide +kernel
theorem dX3_doesPlain_75 : decode cX3_doesPlain 75 = .ok (.iload_n 2, 1) := by decide +kernel
theorem dX3_doesPlain_76 : decode cX3_doesPlain 76 = .ok (.invokevirtual 100, 3) := by decide +kernel
theorem dX3_doesPlain_79 : decode cX3_doesPlain 79 = .ok (.istore_n 3, 1) := by decide +kernel
theorem dX3_doesPlain_80 : decode cX3_doesPlain 80 = .ok (.aload_n 0, 1) := by decide +kernel
theorem dX3_doesPlain_81 : decode cX3_doesPlain 81 = .ok (.getfield 19, 3) := by decide +kernel
theorem dX3_doesPlain_84 : decode cX3_doesPlain 84 = .ok (.iload_n 2, 1) := by decide +kernel
theorem dX3_doesPlain_85 : decode cX3_doesPlain 85 = .ok (.invokevirtual 103, 3) := by decide +kernel
theorem dX3_doesPlain_88 : decode cX3_doesPlain 88 = .ok (.iload_n 3, 1) := by decide +kernel
theorem dX3_doesPlain_89 : decode cX3_doesPlain 89 = .ok (.ireturn, 1) := by decide +kernel
theorem dX3_doesPlain_90 : decode cX3_doesPlain 90 = .ok (.aload_n 0, 1) := by decide +kernel
theorem dX3_doesPlain_91 : decode cX3_doesPlain 91 = .ok (.getfield 19, 3) := by decide +kernel
theorem dX3_doesPlain_94 : decode cX3_doesPlain 94 = .ok (.iload_n 2, 1) := by decide +kernel
theorem dX3_doesPlain_95 : decode cX3_doesPlain 95 = .ok (.invokevirtual 49, 3) := by decide +kernel
theorem dX3_doesPlain_98 : decode cX3_doesPlain 98 = .ok (.istore_n 3, 1) := by decide +kernel
theorem dX3_doesPlain_99 : decode cX3_doesPlain 99 = .ok (.aload_n 0, 1) := by decide +kernel
theorem dX3_doesPlain_100 : decode cX3_doesPlain 100 = .ok (.getfield 19, 3) := by decide +kernel
theorem dX3_doesPlain_103 : decode cX3_doesPlain 103 = .ok (.iload_n 2, 1) := by decide +kernel
theorem dX3_doesPlain_104 : decode cX3_doesPlain 104 = .ok (.invokevirtual 56, 3) := by decide +kernel
theorem dX3_doesPlain_107 : decode cX3_doesPlain 107 = .ok (.iload_n 3, 1) := by decide +kernel
theorem dX3_doesPlain_108 : decode cX3_doesPlain 108 = .ok (.ireturn, 1) := by decide +kernel
theorem dX3_doesPlain_109 : decode cX3_doesPlain 109 = .ok (.aload_n 0, 1) := by decide +kernel
theorem dX3_doesPlain_110 : decode cX3_doesPlain 110 = .ok (.getfield 19, 3) := by decide +kernel
theorem dX3_doesPlain_113 : decode cX3_doesPlain 113 = .ok (.invokevirtual 36, 3) := by decide +kernel
theorem dX3_doesPlain_116 : decode cX3_doesPlain 116 = .ok (.iload_n 2, 1) := by decide +kernel
theorem dX3_doesPlain_117 : decode cX3_doesPlain 117 = .ok (.if_icmp .ne 7, 3) := by decide +kernel
theorem dX3_doesPlain_120 : decode cX3_doesPlain 120 = .ok (.iconst 1, 1) := by decide +kernel
theorem dX3_doesPlain_121 : decode cX3_doesPlain 121 = .ok (.goto 4, 3) := by decide +kernel
theorem dX3_doesPlain_124 : decode cX3_doesPlain 124 = .ok (.iconst 0, 1) := by decide +kernel
theorem dX3_doesPlain_125 : decode cX3_doesPlain 125 = .ok (.ireturn, 1) := by decide +kernel
theorem dX3_doesPlain_126 : decode cX3_doesPlain 126 = .ok (.iconst 0, 1) := by decide +kernel
theorem dX3_doesPlain_127 : decode cX3_doesPlain 127 = .ok (.ireturn, 1) := by decide +kernel
theorem dX3_lossOverOrders_0 : decode cX3_lossOverOrders 0 = .ok (.aload_n 0, 1) := by decide +kernel
theorem dX3_lossOverOrders_1 : decode cX3_lossOverOrders 1 = .ok (.getfield 15, 3) := by decide +kernel
theorem dX3_lossOverOrders_4 : decode cX3_lossOverOrders 4 = .ok (.invokevirtual 46, 3) := by decide +kernel
theorem dX3_lossOverOrders_7 : decode cX3_lossOverOrders 7 = .ok (.istore_n 2, 1) := by decide +kernel
theorem dX3_lossOverOrders_8 : decode cX3_lossOverOrders 8 = .ok (.iconst 0, 1) := by decide +kernel
theorem dX3_lossOverOrders_9 : decode cX3_lossOverOrders 9 = .ok (.istore_n 3, 1) := by decide +kernel
theorem dX3_lossOverOrders_10 : decode cX3_lossOverOrders 10 = .ok (.iconst 0, 1) := by decide +kernel
theorem dX3_lossOverOrders_11 : decode cX3_lossOverOrders 11 = .ok (.istore 4, 2) := by decide +kernel
theorem dX3_lossOverOrders_13 : decode cX3_lossOverOrders 13 = .ok (.iload 4, 2) := by decide +kernel
theorem dX3_lossOverOrders_15 : decode cX3_lossOverOrders 15 = .ok (.iconst 1, 1) := by decide +kernel
theorem dX3_lossOverOrders_16 : decode cX3_lossOverOrders 16 = .ok (.iload_n 2, 1) := by decide +kernel
theorem dX3_lossOverOrders_17 : decode cX3_lossOverOrders 17 = .ok (.ishl, 1) := by decide +kernel
theorem dX3_lossOverOrders_18 : decode cX3_lossOverOrders 18 = .ok (.if_icmp .ge 65, 3) := by decide +kernel
theorem dX3_lossOverOrders_21 : decode cX3_lossOverOrders 21 = .ok (.iload 4, 2) := by decide +kernel
theorem dX3_lossOverOrders_23 : decode cX3_lossOverOrders 23 = .ok (.iload_n 1, 1) := by decide +kernel
theorem dX3_lossOverOrders_24 : decode cX3_lossOverOrders 24 = .ok (.ishr, 1) := by decide +kernel
theorem dX3_lossOverOrders_25 : decode cX3_lossOverOrders 25 = .ok (.iconst 1, 1) := by decide +kernel
theorem dX3_lossOverOrders_26 : decode cX3_lossOverOrders 26 = .ok (.iand, 1) := by decide +kernel
theorem dX3_lossOverOrders_27 : decode cX3_lossOverOrders 27 = .ok (.ifCond .ne 50, 3) := by decide +kernel
theorem dX3_lossOverOrders_30 : decode cX3_lossOverOrders 30 = .ok (.iload 4, 2) := by decide +kernel
theorem dX3_lossOverOrders_32 : decode cX3_lossOverOrders 32 = .ok (.invokestatic 106, 3) := by decide +kernel
theorem dX3_lossOverOrders_35 : decode cX3_lossOverOrders 35 = .ok (.istore 5, 2) := by decide +kernel
theorem dX3_lossOverOrders_37 : decode cX3_lossOverOrders 37 = .ok (.iload 5, 2) := by decide +kernel
theorem dX3_lossOverOrders_39 : decode cX3_lossOverOrders 39 = .ok (.invokestatic 111, 3) := by decide +kernel
theorem dX3_lossOverOrders_42 : decode cX3_lossOverOrders 42 = .ok (.iload_n 2, 1) := by decide +kernel
theorem dX3_lossOverOrders_43 : decode cX3_lossOverOrders 43 = .ok (.iconst 1, 1) := by decide +kernel
theorem dX3_lossOverOrders_44 : decode cX3_lossOverOrders 44 = .ok (.isub, 1) := by decide +kernel
theorem dX3_lossOverOrders_45 : decode cX3_lossOverOrders 45 = .ok (.iload 5, 2) := by decide +kernel
theorem dX3_lossOverOrders_47 : decode cX3_lossOverOrders 47 = .ok (.isub, 1) := by decide +kernel
theorem dX3_lossOverOrders_48 : decode cX3_lossOverOrders 48 = .ok (.invokestatic 111, 3) := by decide +kernel
