theorem dX9_comes_6 : decode cX9_comes 6 = .ok (.invokevirtual 169, 3) := by decide +kernel
theorem dX9_comes_9 : decode cX9_comes 9 = .ok (.aload_n 0, 1) := by decide +kernel
theorem dX9_comes_10 : decode cX9_comes 10 = .ok (.invokevirtual 176, 3) := by decide +kernel
theorem dX9_comes_13 : decode cX9_comes 13 = .ok (.ireturn, 1) := by decide +kernel
theorem dX9_leads_0 : decode cX9_leads 0 = .ok (.aload_n 0, 1) := by decide +kernel
theorem dX9_leads_1 : decode cX9_leads 1 = .ok (.iconst 0, 1) := by decide +kernel
theorem dX9_leads_2 : decode cX9_leads 2 = .ok (.putfield 65, 3) := by decide +kernel
theorem dX9_leads_5 : decode cX9_leads 5 = .ok (.aload_n 0, 1) := by decide +kernel
theorem dX9_leads_6 : decode cX9_leads 6 = .ok (.iload_n 1, 1) := by decide +kernel
theorem dX9_leads_7 : decode cX9_leads 7 = .ok (.invokevirtual 154, 3) := by decide +kernel
theorem dX9_leads_10 : decode cX9_leads 10 = .ok (.ifCond .eq 5, 3) := by decide +kernel
theorem dX9_leads_13 : decode cX9_leads 13 = .ok (.iconst (-1), 1) := by decide +kernel
theorem dX9_leads_14 : decode cX9_leads 14 = .ok (.ireturn, 1) := by decide +kernel
theorem dX9_leads_15 : decode cX9_leads 15 = .ok (.aload_n 0, 1) := by decide +kernel
theorem dX9_leads_16 : decode cX9_leads 16 = .ok (.invokevirtual 169, 3) := by decide +kernel
theorem dX9_leads_19 : decode cX9_leads 19 = .ok (.iconst 0, 1) := by decide +kernel
theorem dX9_leads_20 : decode cX9_leads 20 = .ok (.istore_n 2, 1) := by decide +kernel
theorem dX9_leads_21 : decode cX9_leads 21 = .ok (.iload_n 2, 1) := by decide +kernel
theorem dX9_leads_22 : decode cX9_leads 22 = .ok (.bipush 40, 2) := by decide +kernel
theorem dX9_leads_24 : decode cX9_leads 24 = .ok (.if_icmp .gt 36, 3) := by decide +kernel
theorem dX9_leads_27 : decode cX9_leads 27 = .ok (.aload_n 0, 1) := by decide +kernel
theorem dX9_leads_28 : decode cX9_leads 28 = .ok (.aload_n 0, 1) := by decide +kernel
theorem dX9_leads_29 : decode cX9_leads 29 = .ok (.getfield 34, 3) := by decide +kernel
theorem dX9_leads_32 : decode cX9_leads 32 = .ok (.bipush 31, 2) := by decide +kernel
theorem dX9_leads_34 : decode cX9_leads 34 = .ok (.invokevirtual 133, 3) := by decide +kernel
theorem dX9_leads_37 : decode cX9_leads 37 = .ok (.iload_n 1, 1) := by decide +kernel
theorem dX9_leads_38 : decode cX9_leads 38 = .ok (.if_icmp .ne 5, 3) := by decide +kernel
theorem dX9_leads_41 : decode cX9_leads 41 = .ok (.iload_n 2, 1) := by decide +kernel
theorem dX9_leads_42 : decode cX9_leads 42 = .ok (.ireturn, 1) := by decide +kernel
theorem dX9_leads_43 : decode cX9_leads 43 = .ok (.aload_n 0, 1) := by decide +kernel
theorem dX9_leads_44 : decode cX9_leads 44 = .ok (.aload_n 0, 1) := by decide +kernel
theorem dX9_leads_45 : decode cX9_leads 45 = .ok (.getfield 34, 3) := by decide +kernel
theorem dX9_leads_48 : decode cX9_leads 48 = .ok (.bipush 31, 2) := by decide +kernel
theorem dX9_leads_50 : decode cX9_leads 50 = .ok (.invokevirtual 161, 3) := by decide +kernel
theorem dX9_leads_53 : decode cX9_leads 53 = .ok (.pop, 1) := by decide +kernel
theorem dX9_leads_54 : decode cX9_leads 54 = .ok (.iinc 2 1, 3) := by decide +kernel
theorem dX9_leads_57 : decode cX9_leads 57 = .ok (.goto (-36), 3) := by decide +kernel
theorem dX9_leads_60 : decode cX9_leads 60 = .ok (.bipush (-9), 2) := by decide +kernel
theorem dX9_leads_62 : decode cX9_leads 62 = .ok (.ireturn, 1) := by decide +kernel
theorem dX9_cure_0 : decode cX9_cure 0 = .ok (.aload_n 0, 1) := by decide +kernel
theorem dX9_cure_1 : decode cX9_cure 1 = .ok (.iconst 0, 1) := by decide +kernel
theorem dX9_cure_2 : decode cX9_cure 2 = .ok (.putfield 65, 3) := by decide +kernel
theorem dX9_cure_5 : decode cX9_cure 5 = .ok (.iload_n 1, 1) := by decide +kernel
theorem dX9_cure_6 : decode cX9_cure 6 = .ok (.i2l, 1) := by decide +kernel
theorem dX9_cure_7 : decode cX9_cure 7 = .ok (.lconst 0, 1) := by decide +kernel
theorem dX9_cure_8 : decode cX9_cure 8 = .ok (.lconst 1, 1) := by decide +kernel
theorem dX9_cure_9 : decode cX9_cure 9 = .ok (.invokestatic 72, 3) := by decide +kernel
theorem dX9_cure_12 : decode cX9_cure 12 = .ok (.ifCond .ne 6, 3) := by decide +kernel
theorem dX9_cure_15 : decode cX9_cure 15 = .ok (.bipush (-2), 2) := by decide +kernel
theorem dX9_cure_17 : decode cX9_cure 17 = .ok (.ireturn, 1) := by decide +kernel
theorem dX9_cure_18 : decode cX9_cure 18 = .ok (.aload_n 0, 1) := by decide +kernel
theorem dX9_cure_19 : decode cX9_cure 19 = .ok (.bipush (-9), 2) := by decide +kernel
theorem dX9_cure_21 : decode cX9_cure 21 = .ok (.putfield 179, 3) := by decide +kernel
theorem dX9_cure_24 : decode cX9_cure 24 = .ok (.aload_n 0, 1) := by decide +kernel
theorem dX9_cure_25 : decode cX9_cure 25 = .ok (.bipush (-9), 2) := by decide +kernel
theorem dX9_cure_27 : decode cX9_cure 27 = .ok (.putfield 182, 3) := by decide +kernel
theorem dX9_cure_30 : decode cX9_cure 30 = .ok (.iconst 0, 1) := by decide +kernel
theorem dX9_cure_31 : decode cX9_cure 31 = .ok (.istore_n 2, 1) := by decide +kernel
theorem dX9_cure_32 : decode cX9_cure 32 = .ok (.iload_n 2, 1) := by decide +kernel
theorem dX9_cure_33 : decode cX9_cure 33 = .ok (.aload_n 0, 1) := by decide +kernel
theorem dX9_cure_34 : decode cX9_cure 34 = .ok (.getfield 69, 3) := by decide +kernel
theorem dX9_cure_37 : decode cX9_cure 37 = .ok (.if_icmp .ge 74, 3) := by decide +kernel
theorem dX9_cure_40 : decode cX9_cure 40 = .ok (.aload_n 0, 1) := by decide +kernel
theorem dX9_cure_41 : decode cX9_cure 41 = .ok (.getfield 31, 3) := by decide +kernel
theorem dX9_cure_44 : decode cX9_cure 44 = .ok (.iconst 2, 1) := by decide +kernel
theorem dX9_cure_45 : decode cX9_cure 45 = .ok (.iload_n 2, 1) := by decide +kernel
theorem dX9_cure_46 : decode cX9_cure 46 = .ok (.iadd, 1) := by decide +kernel
theorem dX9_cure_47 : decode cX9_cure 47 = .ok (.iaload, 1) := by decide +kernel
theorem dX9_cure_48 : decode cX9_cure 48 = .ok (.ifCond .le 57, 3) := by decide +kernel
theorem dX9_cure_51 : decode cX9_cure 51 = .ok (.aload_n 0, 1) := by decide +kernel
theorem dX9_cure_52 : decode cX9_cure 52 = .ok (.invokevirtual 169, 3) := by decide +kernel
theorem dX9_cure_55 : decode cX9_cure 55 = .ok (.aload_n 0, 1) := by decide +kernel
theorem dX9_cure_56 : decode cX9_cure 56 = .ok (.getfield 34, 3) := by decide +kernel
theorem dX9_cure_59 : decode cX9_cure 59 = .ok (.iconst 2, 1) := by decide +kernel
theorem dX9_cure_60 : decode cX9_cure 60 = .ok (.iload_n 2, 1) := by decide +kernel
theorem dX9_cure_61 : decode cX9_cure 61 = .ok (.iadd, 1) := by decide +kernel
theorem dX9_cure_62 : decode cX9_cure 62 = .ok (.dup2, 1) := by decide +kernel
theorem dX9_cure_63 : decode cX9_cure 63 = .ok (.iaload, 1) := by decide +kernel
theorem dX9_cure_64 : decode cX9_cure 64 = .ok (.iconst 1, 1) := by decide +kernel
theorem dX9_cure_65 : decode cX9_cure 65 = .ok (.isub, 1) := by decide +kernel
theorem dX9_cure_66 : decode cX9_cure 66 = .ok (.iastore, 1) := by decide +kernel
theorem dX9_cure_67 : decode cX9_cure 67 = .ok (.aload_n 0, 1) := by decide +kernel
theorem dX9_cure_68 : decode cX9_cure 68 = .ok (.invokevirtual 176, 3) := by decide +kernel
theorem dX9_cure_71 : decode cX9_cure 71 = .ok (.istore_n 3, 1) := by decide +kernel
theorem dX9_cure_72 : decode cX9_cure 72 = .ok (.iload_n 3, 1) := by decide +kernel
theorem dX9_cure_73 : decode cX9_cure 73 = .ok (.bipush (-9), 2) := by decide +kernel
theorem dX9_cure_75 : decode cX9_cure 75 = .ok (.if_icmp .eq 30, 3) := by decide +kernel
theorem dX9_cure_78 : decode cX9_cure 78 = .ok (.aload_n 0, 1) := by decide +kernel
theorem dX9_cure_79 : decode cX9_cure 79 = .ok (.getfield 179, 3) := by decide +kernel
theorem dX9_cure_82 : decode cX9_cure 82 = .ok (.bipush (-9), 2) := by decide +kernel
theorem dX9_cure_84 : decode cX9_cure 84 = .ok (.if_icmp .eq 11, 3) := by decide +kernel
theorem dX9_cure_87 : decode cX9_cure 87 = .ok (.iload_n 3, 1) := by decide +kernel
theorem dX9_cure_88 : decode cX9_cure 88 = .ok (.aload_n 0, 1) := by decide +kernel
theorem dX9_cure_89 : decode cX9_cure 89 = .ok (.getfield 179, 3) := by decide +kernel
theorem dX9_cure_92 : decode cX9_cure 92 = .ok (.if_icmp .ge 13, 3) := by decide +kernel
theorem dX9_cure_95 : decode cX9_cure 95 = .ok (.aload_n 0, 1) := by decide +kernel
theorem dX9_cure_96 : decode cX9_cure 96 = .ok (.iload_n 3, 1) := by decide +kernel
theorem dX9_cure_97 : decode cX9_cure 97 = .ok (.putfield 179, 3) := by decide +kernel
theorem dX9_cure_100 : decode cX9_cure 100 = .ok (.aload_n 0, 1) := by decide +kernel
theorem dX9_cure_101 : decode cX9_cure 101 = .ok (.iload_n 2, 1) := by decide +kernel
theorem dX9_cure_102 : decode cX9_cure 102 = .ok (.putfield 182, 3) := by decide +kernel
theorem dX9_cure_105 : decode cX9_cure 105 = .ok (.iinc 2 1, 3) := by decide +kernel
theorem dX9_cure_108 : decode cX9_cure 108 = .ok (.goto (-76), 3) := by decide +kernel
theorem dX9_cure_111 : decode cX9_cure 111 = .ok (.iload_n 1, 1) := by decide +kernel
theorem dX9_cure_112 : decode cX9_cure 112 = .ok (.ifCond .ne 10, 3) := by decide +kernel
theorem dX9_cure_115 : decode cX9_cure 115 = .ok (.aload_n 0, 1) := by decide +kernel
theorem dX9_cure_116 : decode cX9_cure 116 = .ok (.getfield 182, 3) := by decide +kernel
theorem dX9_cure_119 : decode cX9_cure 119 = .ok (.goto 7, 3) := by decide +kernel
theorem dX9_cure_122 : decode cX9_cure 122 = .ok (.aload_n 0, 1) := by decide +kernel
theorem dX9_cure_123 : decode cX9_cure 123 = .ok (.getfield 179, 3) := by decide +kernel
theorem dX9_cure_126 : decode cX9_cure 126 = .ok (.ireturn, 1) := by decide +kernel
theorem dX9_pulls_0 : decode cX9_pulls 0 = .ok (.aload_n 0, 1) := by decide +kernel
theorem dX9_pulls_1 : decode cX9_pulls 1 = .ok (.invokevirtual 169, 3) := by decide +kernel
theorem dX9_pulls_4 : decode cX9_pulls 4 = .ok (.iconst 0, 1) := by decide +kernel
theorem dX9_pulls_5 : decode cX9_pulls 5 = .ok (.istore_n 2, 1) := by decide +kernel
theorem dX9_pulls_6 : decode cX9_pulls 6 = .ok (.aload_n 0, 1) := by decide +kernel
theorem dX9_pulls_7 : decode cX9_pulls 7 = .ok (.iconst 0, 1) := by decide +kernel
theorem dX9_pulls_8 : decode cX9_pulls 8 = .ok (.putfield 182, 3) := by decide +kernel
theorem dX9_pulls_11 : decode cX9_pulls 11 = .ok (.iconst 0, 1) := by decide +kernel
theorem dX9_pulls_12 : decode cX9_pulls 12 = .ok (.istore_n 3, 1) := by decide +kernel
theorem dX9_pulls_13 : decode cX9_pulls 13 = .ok (.iload_n 3, 1) := by decide +kernel
theorem dX9_pulls_14 : decode cX9_pulls 14 = .ok (.aload_n 0, 1) := by decide +kernel
theorem dX9_pulls_15 : decode cX9_pulls 15 = .ok (.getfield 69, 3) := by decide +kernel
theorem dX9_pulls_18 : decode cX9_pulls 18 = .ok (.if_icmp .ge 75, 3) := by decide +kernel
theorem dX9_pulls_21 : decode cX9_pulls 21 = .ok (.iload_n 1, 1) := by decide +kernel
theorem dX9_pulls_22 : decode cX9_pulls 22 = .ok (.iconst 4, 1) := by decide +kernel
theorem dX9_pulls_23 : decode cX9_pulls 23 = .ok (.aload_n 0, 1) := by decide +kernel
theorem dX9_pulls_24 : decode cX9_pulls 24 = .ok (.getfield 69, 3) := by decide +kernel
theorem dX9_pulls_27 : decode cX9_pulls 27 = .ok (.iconst 1, 1) := by decide +kernel
theorem dX9_pulls_28 : decode cX9_pulls 28 = .ok (.isub, 1) := by decide +kernel
theorem dX9_pulls_29 : decode cX9_pulls 29 = .ok (.iload_n 3, 1) := by decide +kernel
theorem dX9_pulls_30 : decode cX9_pulls 30 = .ok (.isub, 1) := by decide +kernel
theorem dX9_pulls_31 : decode cX9_pulls 31 = .ok (.invokestatic 185, 3) := by decide +kernel
theorem dX9_pulls_34 : decode cX9_pulls 34 = .ok (.idiv, 1) := by decide +kernel
theorem dX9_pulls_35 : decode cX9_pulls 35 = .ok (.iconst 4, 1) := by decide +kernel
theorem dX9_pulls_36 : decode cX9_pulls 36 = .ok (.irem, 1) := by decide +kernel
theorem dX9_pulls_37 : decode cX9_pulls 37 = .ok (.istore 4, 2) := by decide +kernel
theorem dX9_pulls_39 : decode cX9_pulls 39 = .ok (.iload 4, 2) := by decide +kernel
theorem dX9_pulls_41 : decode cX9_pulls 41 = .ok (.aload_n 0, 1) := by decide +kernel
theorem dX9_pulls_42 : decode cX9_pulls 42 = .ok (.getfield 31, 3) := by decide +kernel
theorem dX9_pulls_45 : decode cX9_pulls 45 = .ok (.iconst 2, 1) := by decide +kernel
theorem dX9_pulls_46 : decode cX9_pulls 46 = .ok (.iload_n 3, 1) := by decide +kernel
theorem dX9_pulls_47 : decode cX9_pulls 47 = .ok (.iadd, 1) := by decide +kernel
theorem dX9_pulls_48 : decode cX9_pulls 48 = .ok (.iaload, 1) := by decide +kernel
theorem dX9_pulls_49 : decode cX9_pulls 49 = .ok (.if_icmp .le 6, 3) := by decide +kernel
theorem dX9_pulls_52 : decode cX9_pulls 52 = .ok (.bipush (-9), 2) := by decide +kernel
theorem dX9_pulls_54 : decode cX9_pulls 54 = .ok (.ireturn, 1) := by decide +kernel
theorem dX9_pulls_55 : decode cX9_pulls 55 = .ok (.aload_n 0, 1) := by decide +kernel
theorem dX9_pulls_56 : decode cX9_pulls 56 = .ok (.getfield 34, 3) := by decide +kernel
theorem dX9_pulls_59 : decode cX9_pulls 59 = .ok (.iconst 2, 1) := by decide +kernel
theorem dX9_pulls_60 : decode cX9_pulls 60 = .ok (.iload_n 3, 1) := by decide +kernel
theorem dX9_pulls_61 : decode cX9_pulls 61 = .ok (.iadd, 1) := by decide +kernel
theorem dX9_pulls_62 : decode cX9_pulls 62 = .ok (.dup2, 1) := by decide +kernel
theorem dX9_pulls_63 : decode cX9_pulls 63 = .ok (.iaload, 1) := by decide +kernel
theorem dX9_pulls_64 : decode cX9_pulls 64 = .ok (.iload 4, 2) := by decide +kernel
theorem dX9_pulls_66 : decode cX9_pulls 66 = .ok (.isub, 1) := by decide +kernel
theorem dX9_pulls_67 : decode cX9_pulls 67 = .ok (.iastore, 1) := by decide +kernel
theorem dX9_pulls_68 : decode cX9_pulls 68 = .ok (.iload_n 2, 1) := by decide +kernel
theorem dX9_pulls_69 : decode cX9_pulls 69 = .ok (.iload 4, 2) := by decide +kernel
theorem dX9_pulls_71 : decode cX9_pulls 71 = .ok (.iadd, 1) := by decide +kernel
theorem dX9_pulls_72 : decode cX9_pulls 72 = .ok (.istore_n 2, 1) := by decide +kernel
theorem dX9_pulls_73 : decode cX9_pulls 73 = .ok (.aload_n 0, 1) := by decide +kernel
theorem dX9_pulls_74 : decode cX9_pulls 74 = .ok (.bipush 10, 2) := by decide +kernel
theorem dX9_pulls_76 : decode cX9_pulls 76 = .ok (.aload_n 0, 1) := by decide +kernel
theorem dX9_pulls_77 : decode cX9_pulls 77 = .ok (.getfield 182, 3) := by decide +kernel
theorem dX9_pulls_80 : decode cX9_pulls 80 = .ok (.imul, 1) := by decide +kernel
theorem dX9_pulls_81 : decode cX9_pulls 81 = .ok (.iload 4, 2) := by decide +kernel
theorem dX9_pulls_83 : decode cX9_pulls 83 = .ok (.iadd, 1) := by decide +kernel
theorem dX9_pulls_84 : decode cX9_pulls 84 = .ok (.putfield 182, 3) := by decide +kernel
theorem dX9_pulls_87 : decode cX9_pulls 87 = .ok (.iinc 3 1, 3) := by decide +kernel
theorem dX9_pulls_90 : decode cX9_pulls 90 = .ok (.goto (-77), 3) := by decide +kernel
theorem dX9_pulls_93 : decode cX9_pulls 93 = .ok (.iload_n 2, 1) := by decide +kernel
theorem dX9_pulls_94 : decode cX9_pulls 94 = .ok (.ireturn, 1) := by decide +kernel
theorem dX9_findPlan_0 : decode cX9_findPlan 0 = .ok (.aload_n 0, 1) := by decide +kernel
theorem dX9_findPlan_1 : decode cX9_findPlan 1 = .ok (.bipush (-9), 2) := by decide +kernel
theorem dX9_findPlan_3 : decode cX9_findPlan 3 = .ok (.putfield 179, 3) := by decide +kernel
theorem dX9_findPlan_6 : decode cX9_findPlan 6 = .ok (.aload_n 0, 1) := by decide +kernel
theorem dX9_findPlan_7 : decode cX9_findPlan 7 = .ok (.bipush (-9), 2) := by decide +kernel
theorem dX9_findPlan_9 : decode cX9_findPlan 9 = .ok (.putfield 188, 3) := by decide +kernel
theorem dX9_findPlan_12 : decode cX9_findPlan 12 = .ok (.iconst 0, 1) := by decide +kernel
theorem dX9_findPlan_13 : decode cX9_findPlan 13 = .ok (.istore_n 2, 1) := by decide +kernel
theorem dX9_findPlan_14 : decode cX9_findPlan 14 = .ok (.iload_n 2, 1) := by decide +kernel
theorem dX9_findPlan_15 : decode cX9_findPlan 15 = .ok (.iconst 4, 1) := by decide +kernel
theorem dX9_findPlan_16 : decode cX9_findPlan 16 = .ok (.aload_n 0, 1) := by decide +kernel
theorem dX9_findPlan_17 : decode cX9_findPlan 17 = .ok (.getfield 69, 3) := by decide +kernel
theorem dX9_findPlan_20 : decode cX9_findPlan 20 = .ok (.invokestatic 185, 3) := by decide +kernel
theorem dX9_findPlan_23 : decode cX9_findPlan 23 = .ok (.if_icmp .ge 101, 3) := by decide +kernel
theorem dX9_findPlan_26 : decode cX9_findPlan 26 = .ok (.aload_n 0, 1) := by decide +kernel
theorem dX9_findPlan_27 : decode cX9_findPlan 27 = .ok (.iload_n 2, 1) := by decide +kernel
theorem dX9_findPlan_28 : decode cX9_findPlan 28 = .ok (.invokevirtual 191, 3) := by decide +kernel
theorem dX9_findPlan_31 : decode cX9_findPlan 31 = .ok (.istore_n 3, 1) := by decide +kernel
theorem dX9_findPlan_32 : decode cX9_findPlan 32 = .ok (.iload_n 3, 1) := by decide +kernel
theorem dX9_findPlan_33 : decode cX9_findPlan 33 = .ok (.bipush (-9), 2) := by decide +kernel
theorem dX9_findPlan_35 : decode cX9_findPlan 35 = .ok (.if_icmp .eq 83, 3) := by decide +kernel
theorem dX9_findPlan_38 : decode cX9_findPlan 38 = .ok (.aload_n 0, 1) := by decide +kernel
theorem dX9_findPlan_39 : decode cX9_findPlan 39 = .ok (.getfield 179, 3) := by decide +kernel
theorem dX9_findPlan_42 : decode cX9_findPlan 42 = .ok (.bipush (-9), 2) := by decide +kernel
theorem dX9_findPlan_44 : decode cX9_findPlan 44 = .ok (.if_icmp .eq 11, 3) := by decide +kernel
theorem dX9_findPlan_47 : decode cX9_findPlan 47 = .ok (.iload_n 3, 1) := by decide +kernel
theorem dX9_findPlan_48 : decode cX9_findPlan 48 = .ok (.aload_n 0, 1) := by decide +kernel
theorem dX9_findPlan_49 : decode cX9_findPlan 49 = .ok (.getfield 179, 3) := by decide +kernel
theorem dX9_findPlan_52 : decode cX9_findPlan 52 = .ok (.if_icmp .ge 66, 3) := by decide +kernel
theorem dX9_findPlan_55 : decode cX9_findPlan 55 = .ok (.aload_n 0, 1) := by decide +kernel
theorem dX9_findPlan_56 : decode cX9_findPlan 56 = .ok (.invokevirtual 176, 3) := by decide +kernel
theorem dX9_findPlan_59 : decode cX9_findPlan 59 = .ok (.istore 4, 2) := by decide +kernel
theorem dX9_findPlan_61 : decode cX9_findPlan 61 = .ok (.iload 4, 2) := by decide +kernel
theorem dX9_findPlan_63 : decode cX9_findPlan 63 = .ok (.bipush (-9), 2) := by decide +kernel
theorem dX9_findPlan_65 : decode cX9_findPlan 65 = .ok (.if_icmp .eq 13, 3) := by decide +kernel
theorem dX9_findPlan_68 : decode cX9_findPlan 68 = .ok (.iload 4, 2) := by decide +kernel
theorem dX9_findPlan_70 : decode cX9_findPlan 70 = .ok (.iload_n 1, 1) := by decide +kernel
theorem dX9_findPlan_71 : decode cX9_findPlan 71 = .ok (.if_icmp .gt 7, 3) := by decide +kernel
theorem dX9_findPlan_74 : decode cX9_findPlan 74 = .ok (.iconst 1, 1) := by decide +kernel
theorem dX9_findPlan_75 : decode cX9_findPlan 75 = .ok (.goto 4, 3) := by decide +kernel
theorem dX9_findPlan_78 : decode cX9_findPlan 78 = .ok (.iconst 0, 1) := by decide +kernel
theorem dX9_findPlan_79 : decode cX9_findPlan 79 = .ok (.istore 5, 2) := by decide +kernel
theorem dX9_findPlan_81 : decode cX9_findPlan 81 = .ok (.aload_n 0, 1) := by decide +kernel
theorem dX9_findPlan_82 : decode cX9_findPlan 82 = .ok (.iload 5, 2) := by decide +kernel
theorem dX9_findPlan_84 : decode cX9_findPlan 84 = .ok (.ifCond .eq 10, 3) := by decide +kernel
theorem dX9_findPlan_87 : decode cX9_findPlan 87 = .ok (.aload_n 0, 1) := by decide +kernel
theorem dX9_findPlan_88 : decode cX9_findPlan 88 = .ok (.getfield 182, 3) := by decide +kernel
theorem dX9_findPlan_91 : decode cX9_findPlan 91 = .ok (.goto 7, 3) := by decide +kernel
theorem dX9_findPlan_94 : decode cX9_findPlan 94 = .ok (.aload_n 0, 1) := by decide +kernel
theorem dX9_findPlan_95 : decode cX9_findPlan 95 = .ok (.getfield 188, 3) := by decide +kernel
theorem dX9_findPlan_98 : decode cX9_findPlan 98 = .ok (.putfield 188, 3) := by decide +kernel
theorem dX9_findPlan_101 : decode cX9_findPlan 101 = .ok (.aload_n 0, 1) := by decide +kernel
theorem dX9_findPlan_102 : decode cX9_findPlan 102 = .ok (.iload 5, 2) := by decide +kernel
theorem dX9_findPlan_104 : decode cX9_findPlan 104 = .ok (.ifCond .eq 7, 3) := by decide +kernel
theorem dX9_findPlan_107 : decode cX9_findPlan 107 = .ok (.iload_n 3, 1) := by decide +kernel
theorem dX9_findPlan_108 : decode cX9_findPlan 108 = .ok (.goto 7, 3) := by decide +kernel
theorem dX9_findPlan_111 : decode cX9_findPlan 111 = .ok (.aload_n 0, 1) := by decide +kernel
theorem dX9_findPlan_112 : decode cX9_findPlan 112 = .ok (.getfield 179, 3) := by decide +kernel
theorem dX9_findPlan_115 : decode cX9_findPlan 115 = .ok (.putfield 179, 3) := by decide +kernel
theorem dX9_findPlan_118 : decode cX9_findPlan 118 = .ok (.iinc 2 1, 3) := by decide +kernel
theorem dX9_findPlan_121 : decode cX9_findPlan 121 = .ok (.goto (-107), 3) := by decide +kernel
theorem dX9_findPlan_124 : decode cX9_findPlan 124 = .ok (.return_, 1) := by decide +kernel
theorem dX9_plan_0 : decode cX9_plan 0 = .ok (.aload_n 0, 1) := by decide +kernel
theorem dX9_plan_1 : decode cX9_plan 1 = .ok (.iconst 0, 1) := by decide +kernel
theorem dX9_plan_2 : decode cX9_plan 2 = .ok (.putfield 65, 3) := by decide +kernel
theorem dX9_plan_5 : decode cX9_plan 5 = .ok (.iload_n 1, 1) := by decide +kernel
theorem dX9_plan_6 : decode cX9_plan 6 = .ok (.i2l, 1) := by decide +kernel
theorem dX9_plan_7 : decode cX9_plan 7 = .ok (.lconst 0, 1) := by decide +kernel
theorem dX9_plan_8 : decode cX9_plan 8 = .ok (.ldc2_w 194, 3) := by decide +kernel
theorem dX9_plan_11 : decode cX9_plan 11 = .ok (.invokestatic 72, 3) := by decide +kernel
theorem dX9_plan_14 : decode cX9_plan 14 = .ok (.ifCond .eq 13, 3) := by decide +kernel
theorem dX9_plan_17 : decode cX9_plan 17 = .ok (.iload_n 2, 1) := by decide +kernel
theorem dX9_plan_18 : decode cX9_plan 18 = .ok (.i2l, 1) := by decide +kernel
theorem dX9_plan_19 : decode cX9_plan 19 = .ok (.lconst 0, 1) := by decide +kernel
theorem dX9_plan_20 : decode cX9_plan 20 = .ok (.lconst 1, 1) := by decide +kernel
theorem dX9_plan_21 : decode cX9_plan 21 = .ok (.invokestatic 72, 3) := by decide +kernel
theorem dX9_plan_24 : decode cX9_plan 24 = .ok (.ifCond .ne 6, 3) := by decide +kernel
theorem dX9_plan_27 : decode cX9_plan 27 = .ok (.bipush (-2), 2) := by decide +kernel
theorem dX9_plan_29 : decode cX9_plan 29 = .ok (.ireturn, 1) := by decide +kernel
theorem dX9_plan_30 : decode cX9_plan 30 = .ok (.aload_n 0, 1) := by decide +kernel
theorem dX9_plan_31 : decode cX9_plan 31 = .ok (.iload_n 1, 1) := by decide +kernel
theorem dX9_plan_32 : decode cX9_plan 32 = .ok (.invokevirtual 196, 3) := by decide +kernel
theorem dX9_plan_35 : decode cX9_plan 35 = .ok (.iload_n 2, 1) := by decide +kernel
theorem dX9_plan_36 : decode cX9_plan 36 = .ok (.ifCond .ne 10, 3) := by decide +kernel
theorem dX9_plan_39 : decode cX9_plan 39 = .ok (.aload_n 0, 1) := by decide +kernel
theorem dX9_plan_40 : decode cX9_plan 40 = .ok (.getfield 179, 3) := by decide +kernel
theorem dX9_plan_43 : decode cX9_plan 43 = .ok (.goto 7, 3) := by decide +kernel
theorem dX9_plan_46 : decode cX9_plan 46 = .ok (.aload_n 0, 1) := by decide +kernel
theorem dX9_plan_47 : decode cX9_plan 47 = .ok (.getfield 188, 3) := by decide +kernel
theorem dX9_plan_50 : decode cX9_plan 50 = .ok (.ireturn, 1) := by decide +kernel
theorem dX9_longPower_0 : decode cX9_longPower 0 = .ok (.lconst 1, 1) := by decide +kernel
theorem dX9_longPower_1 : decode cX9_longPower 1 = .ok (.lstore_n 3, 1) := by decide +kernel
theorem dX9_longPower_2 : decode cX9_longPower 2 = .ok (.iconst 0, 1) := by decide +kernel
theorem dX9_longPower_3 : decode cX9_longPower 3 = .ok (.istore 5, 2) := by decide +kernel
theorem dX9_longPower_5 : decode cX9_longPower 5 = .ok (.iload 5, 2) := by decide +kernel
theorem dX9_longPower_7 : decode cX9_longPower 7 = .ok (.iload_n 2, 1) := by decide +kernel
theorem dX9_longPower_8 : decode cX9_longPower 8 = .ok (.if_icmp .ge 13, 3) := by decide +kernel
theorem dX9_longPower_11 : decode cX9_longPower 11 = .ok (.lload_n 3, 1) := by decide +kernel
theorem dX9_longPower_12 : decode cX9_longPower 12 = .ok (.lload_n 0, 1) := by decide +kernel
theorem dX9_longPower_13 : decode cX9_longPower 13 = .ok (.lmul, 1) := by decide +kernel
theorem dX9_longPower_14 : decode cX9_longPower 14 = .ok (.lstore_n 3, 1) := by decide +kernel
theorem dX9_longPower_15 : decode cX9_longPower 15 = .ok (.iinc 5 1, 3) := by decide +kernel
theorem dX9_longPower_18 : decode cX9_longPower 18 = .ok (.goto (-13), 3) := by decide +kernel
theorem dX9_longPower_21 : decode cX9_longPower 21 = .ok (.lload_n 3, 1) := by decide +kernel
theorem dX9_longPower_22 : decode cX9_longPower 22 = .ok (.lreturn, 1) := by decide +kernel
theorem dX9_gravels_0 : decode cX9_gravels 0 = .ok (.aload_n 0, 1) := by decide +kernel
theorem dX9_gravels_1 : decode cX9_gravels 1 = .ok (.iload_n 1, 1) := by decide +kernel
theorem dX9_gravels_2 : decode cX9_gravels 2 = .ok (.invokevirtual 154, 3) := by decide +kernel
theorem dX9_gravels_5 : decode cX9_gravels 5 = .ok (.ifCond .ne 20, 3) := by decide +kernel
theorem dX9_gravels_8 : decode cX9_gravels 8 = .ok (.aload_n 0, 1) := by decide +kernel
theorem dX9_gravels_9 : decode cX9_gravels 9 = .ok (.getfield 34, 3) := by decide +kernel
theorem dX9_gravels_12 : decode cX9_gravels 12 = .ok (.iconst 2, 1) := by decide +kernel
theorem dX9_gravels_13 : decode cX9_gravels 13 = .ok (.iload_n 1, 1) := by decide +kernel
theorem dX9_gravels_14 : decode cX9_gravels 14 = .ok (.iadd, 1) := by decide +kernel
theorem dX9_gravels_15 : decode cX9_gravels 15 = .ok (.iaload, 1) := by decide +kernel
theorem dX9_gravels_16 : decode cX9_gravels 16 = .ok (.bipush 9, 2) := by decide +kernel
theorem dX9_gravels_18 : decode cX9_gravels 18 = .ok (.if_icmp .ge 7, 3) := by decide +kernel
theorem dX9_gravels_21 : decode cX9_gravels 21 = .ok (.iconst 1, 1) := by decide +kernel
theorem dX9_gravels_22 : decode cX9_gravels 22 = .ok (.goto 4, 3) := by decide +kernel
theorem dX9_gravels_25 : decode cX9_gravels 25 = .ok (.iconst 0, 1) := by decide +kernel
theorem dX9_gravels_26 : decode cX9_gravels 26 = .ok (.istore_n 2, 1) := by decide +kernel
theorem dX9_gravels_27 : decode cX9_gravels 27 = .ok (.iload_n 2, 1) := by decide +kernel
theorem dX9_gravels_28 : decode cX9_gravels 28 = .ok (.ifCond .eq 11, 3) := by decide +kernel
theorem dX9_gravels_31 : decode cX9_gravels 31 = .ok (.aload_n 0, 1) := by decide +kernel
theorem dX9_gravels_32 : decode cX9_gravels 32 = .ok (.getfield 34, 3) := by decide +kernel
theorem dX9_gravels_35 : decode cX9_gravels 35 = .ok (.iload_n 1, 1) := by decide +kernel
theorem dX9_gravels_36 : decode cX9_gravels 36 = .ok (.invokestatic 139, 3) := by decide +kernel
theorem dX9_gravels_39 : decode cX9_gravels 39 = .ok (.iload_n 2, 1) := by decide +kernel
theorem dX9_gravels_40 : decode cX9_gravels 40 = .ok (.ireturn, 1) := by decide +kernel
theorem dX9_isPulled_0 : decode cX9_isPulled 0 = .ok (.aload_n 0, 1) := by decide +kernel
theorem dX9_isPulled_1 : decode cX9_isPulled 1 = .ok (.iload_n 1, 1) := by decide +kernel
theorem dX9_isPulled_2 : decode cX9_isPulled 2 = .ok (.invokevirtual 154, 3) := by decide +kernel
theorem dX9_isPulled_5 : decode cX9_isPulled 5 = .ok (.ifCond .ne 18, 3) := by decide +kernel
theorem dX9_isPulled_8 : decode cX9_isPulled 8 = .ok (.aload_n 0, 1) := by decide +kernel
theorem dX9_isPulled_9 : decode cX9_isPulled 9 = .ok (.getfield 34, 3) := by decide +kernel
theorem dX9_isPulled_12 : decode cX9_isPulled 12 = .ok (.iconst 2, 1) := by decide +kernel
theorem dX9_isPulled_13 : decode cX9_isPulled 13 = .ok (.iload_n 1, 1) := by decide +kernel
theorem dX9_isPulled_14 : decode cX9_isPulled 14 = .ok (.iadd, 1) := by decide +kernel
theorem dX9_isPulled_15 : decode cX9_isPulled 15 = .ok (.iaload, 1) := by decide +kernel
theorem dX9_isPulled_16 : decode cX9_isPulled 16 = .ok (.ifCond .le 7, 3) := by decide +kernel
theorem dX9_isPulled_19 : decode cX9_isPulled 19 = .ok (.iconst 1, 1) := by decide +kernel
theorem dX9_isPulled_20 : decode cX9_isPulled 20 = .ok (.goto 4, 3) := by decide +kernel
theorem dX9_isPulled_23 : decode cX9_isPulled 23 = .ok (.iconst 0, 1) := by decide +kernel
theorem dX9_isPulled_24 : decode cX9_isPulled 24 = .ok (.istore_n 2, 1) := by decide +kernel
theorem dX9_isPulled_25 : decode cX9_isPulled 25 = .ok (.iload_n 2, 1) := by decide +kernel
theorem dX9_isPulled_26 : decode cX9_isPulled 26 = .ok (.ifCond .eq 15, 3) := by decide +kernel
theorem dX9_isPulled_29 : decode cX9_isPulled 29 = .ok (.aload_n 0, 1) := by decide +kernel
theorem dX9_isPulled_30 : decode cX9_isPulled 30 = .ok (.getfield 34, 3) := by decide +kernel
theorem dX9_isPulled_33 : decode cX9_isPulled 33 = .ok (.iconst 2, 1) := by decide +kernel
theorem dX9_isPulled_34 : decode cX9_isPulled 34 = .ok (.iload_n 1, 1) := by decide +kernel
theorem dX9_isPulled_35 : decode cX9_isPulled 35 = .ok (.iadd, 1) := by decide +kernel
theorem dX9_isPulled_36 : decode cX9_isPulled 36 = .ok (.dup2, 1) := by decide +kernel
theorem dX9_isPulled_37 : decode cX9_isPulled 37 = .ok (.iaload, 1) := by decide +kernel
theorem dX9_isPulled_38 : decode cX9_isPulled 38 = .ok (.iconst 1, 1) := by decide +kernel
theorem dX9_isPulled_39 : decode cX9_isPulled 39 = .ok (.isub, 1) := by decide +kernel
theorem dX9_isPulled_40 : decode cX9_isPulled 40 = .ok (.iastore, 1) := by decide +kernel
theorem dX9_isPulled_41 : decode cX9_isPulled 41 = .ok (.iload_n 2, 1) := by decide +kernel
theorem dX9_isPulled_42 : decode cX9_isPulled 42 = .ok (.ireturn, 1) := by decide +kernel
theorem dX9_does_0 : decode cX9_does 0 = .ok (.iload_n 1, 1) := by decide +kernel
theorem dX9_does_1 : decode cX9_does 1 = .ok (.bipush 100, 2) := by decide +kernel
theorem dX9_does_3 : decode cX9_does 3 = .ok (.idiv, 1) := by decide +kernel
theorem dX9_does_4 : decode cX9_does 4 = .ok (.istore_n 2, 1) := by decide +kernel
theorem dX9_does_5 : decode cX9_does 5 = .ok (.iload_n 1, 1) := by decide +kernel
theorem dX9_does_6 : decode cX9_does 6 = .ok (.bipush 10, 2) := by decide +kernel
theorem dX9_does_8 : decode cX9_does 8 = .ok (.idiv, 1) := by decide +kernel
theorem dX9_does_9 : decode cX9_does 9 = .ok (.bipush 10, 2) := by decide +kernel
theorem dX9_does_11 : decode cX9_does 11 = .ok (.irem, 1) := by decide +kernel
theorem dX9_does_12 : decode cX9_does 12 = .ok (.istore_n 3, 1) := by decide +kernel
theorem dX9_does_13 : decode cX9_does 13 = .ok (.iload_n 1, 1) := by decide +kernel
theorem dX9_does_14 : decode cX9_does 14 = .ok (.bipush 10, 2) := by decide +kernel
theorem dX9_does_16 : decode cX9_does 16 = .ok (.irem, 1) := by decide +kernel
theorem dX9_does_17 : decode cX9_does 17 = .ok (.istore 4, 2) := by decide +kernel
theorem dX9_does_19 : decode cX9_does 19 = .ok (.iload_n 1, 1) := by decide +kernel
theorem dX9_does_20 : decode cX9_does 20 = .ok (.ifCond .ne 16, 3) := by decide +kernel
theorem dX9_does_23 : decode cX9_does 23 = .ok (.aload_n 0, 1) := by decide +kernel
theorem dX9_does_24 : decode cX9_does 24 = .ok (.aload_n 0, 1) := by decide +kernel
theorem dX9_does_25 : decode cX9_does 25 = .ok (.getfield 34, 3) := by decide +kernel
theorem dX9_does_28 : decode cX9_does 28 = .ok (.bipush 31, 2) := by decide +kernel
theorem dX9_does_30 : decode cX9_does 30 = .ok (.invokevirtual 161, 3) := by decide +kernel
theorem dX9_does_33 : decode cX9_does 33 = .ok (.pop, 1) := by decide +kernel
theorem dX9_does_34 : decode cX9_does 34 = .ok (.iconst 1, 1) := by decide +kernel
theorem dX9_does_35 : decode cX9_does 35 = .ok (.ireturn, 1) := by decide +kernel
theorem dX9_does_36 : decode cX9_does 36 = .ok (.iload_n 1, 1) := by decide +kernel
theorem dX9_does_37 : decode cX9_does 37 = .ok (.bipush 100, 2) := by decide +kernel
theorem dX9_does_39 : decode cX9_does 39 = .ok (.if_icmp .ne 14, 3) := by decide +kernel
theorem dX9_does_42 : decode cX9_does 42 = .ok (.aload_n 0, 1) := by decide +kernel
theorem dX9_does_43 : decode cX9_does 43 = .ok (.aload_n 0, 1) := by decide +kernel
theorem dX9_does_44 : decode cX9_does 44 = .ok (.getfield 34, 3) := by decide +kernel
theorem dX9_does_47 : decode cX9_does 47 = .ok (.invokevirtual 164, 3) := by decide +kernel
theorem dX9_does_50 : decode cX9_does 50 = .ok (.pop, 1) := by decide +kernel
theorem dX9_does_51 : decode cX9_does 51 = .ok (.iconst 1, 1) := by decide +kernel
theorem dX9_does_52 : decode cX9_does 52 = .ok (.ireturn, 1) := by decide +kernel
theorem dX9_does_53 : decode cX9_does 53 = .ok (.iload_n 2, 1) := by decide +kernel
theorem dX9_does_54 : decode cX9_does 54 = .ok (.iconst 5, 1) := by decide +kernel
theorem dX9_does_55 : decode cX9_does 55 = .ok (.if_icmp .ne 30, 3) := by decide +kernel
theorem dX9_does_58 : decode cX9_does 58 = .ok (.aload_n 0, 1) := by decide +kernel
theorem dX9_does_59 : decode cX9_does 59 = .ok (.iload_n 3, 1) := by decide +kernel
theorem dX9_does_60 : decode cX9_does 60 = .ok (.invokevirtual 154, 3) := by decide +kernel
theorem dX9_does_63 : decode cX9_does 63 = .ok (.ifCond .ne 20, 3) := by decide +kernel
theorem dX9_does_66 : decode cX9_does 66 = .ok (.aload_n 0, 1) := by decide +kernel
theorem dX9_does_67 : decode cX9_does 67 = .ok (.getfield 34, 3) := by decide +kernel
theorem dX9_does_70 : decode cX9_does 70 = .ok (.iconst 2, 1) := by decide +kernel
theorem dX9_does_71 : decode cX9_does 71 = .ok (.iload_n 3, 1) := by decide +kernel
theorem dX9_does_72 : decode cX9_does 72 = .ok (.iadd, 1) := by decide +kernel
theorem dX9_does_73 : decode cX9_does 73 = .ok (.iaload, 1) := by decide +kernel
theorem dX9_does_74 : decode cX9_does 74 = .ok (.iload 4, 2) := by decide +kernel
theorem dX9_does_76 : decode cX9_does 76 = .ok (.if_icmp .lt 7, 3) := by decide +kernel
theorem dX9_does_79 : decode cX9_does 79 = .ok (.iconst 1, 1) := by decide +kernel
theorem dX9_does_80 : decode cX9_does 80 = .ok (.goto 4, 3) := by decide +kernel
theorem dX9_does_83 : decode cX9_does 83 = .ok (.iconst 0, 1) := by decide +kernel
theorem dX9_does_84 : decode cX9_does 84 = .ok (.ireturn, 1) := by decide +kernel
theorem dX9_does_85 : decode cX9_does 85 = .ok (.iload_n 2, 1) := by decide +kernel
theorem dX9_does_86 : decode cX9_does 86 = .ok (.bipush 6, 2) := by decide +kernel
theorem dX9_does_88 : decode cX9_does 88 = .ok (.if_icmp .ne 25, 3) := by decide +kernel
theorem dX9_does_91 : decode cX9_does 91 = .ok (.aload_n 0, 1) := by decide +kernel
theorem dX9_does_92 : decode cX9_does 92 = .ok (.getfield 34, 3) := by decide +kernel
theorem dX9_does_95 : decode cX9_does 95 = .ok (.iconst 0, 1) := by decide +kernel
theorem dX9_does_96 : decode cX9_does 96 = .ok (.iaload, 1) := by decide +kernel
theorem dX9_does_97 : decode cX9_does 97 = .ok (.bipush 10, 2) := by decide +kernel
theorem dX9_does_99 : decode cX9_does 99 = .ok (.iload_n 3, 1) := by decide +kernel
theorem dX9_does_100 : decode cX9_does 100 = .ok (.imul, 1) := by decide +kernel
theorem dX9_does_101 : decode cX9_does 101 = .ok (.iload 4, 2) := by decide +kernel
theorem dX9_does_103 : decode cX9_does 103 = .ok (.iadd, 1) := by decide +kernel
theorem dX9_does_104 : decode cX9_does 104 = .ok (.if_icmp .lt 7, 3) := by decide +kernel
theorem dX9_does_107 : decode cX9_does 107 = .ok (.iconst 1, 1) := by decide +kernel
theorem dX9_does_108 : decode cX9_does 108 = .ok (.goto 4, 3) := by decide +kernel
theorem dX9_does_111 : decode cX9_does 111 = .ok (.iconst 0, 1) := by decide +kernel
theorem dX9_does_112 : decode cX9_does 112 = .ok (.ireturn, 1) := by decide +kernel
theorem dX9_does_113 : decode cX9_does 113 = .ok (.iload_n 3, 1) := by decide +kernel
theorem dX9_does_114 : decode cX9_does 114 = .ok (.ifCond .eq 5, 3) := by decide +kernel
theorem dX9_does_117 : decode cX9_does 117 = .ok (.iconst 0, 1) := by decide +kernel
theorem dX9_does_118 : decode cX9_does 118 = .ok (.ireturn, 1) := by decide +kernel
theorem dX9_does_119 : decode cX9_does 119 = .ok (.iload_n 2, 1) := by decide +kernel
theorem dX9_does_120 : decode cX9_does 120 = .ok (.iconst 2, 1) := by decide +kernel
theorem dX9_does_121 : decode cX9_does 121 = .ok (.if_icmp .ne 12, 3) := by decide +kernel
theorem dX9_does_124 : decode cX9_does 124 = .ok (.aload_n 0, 1) := by decide +kernel
theorem dX9_does_125 : decode cX9_does 125 = .ok (.iload 4, 2) := by decide +kernel
theorem dX9_does_127 : decode cX9_does 127 = .ok (.invokevirtual 200, 3) := by decide +kernel
theorem dX9_does_130 : decode cX9_does 130 = .ok (.ifCond .ne 37, 3) := by decide +kernel
theorem dX9_does_133 : decode cX9_does 133 = .ok (.iload_n 2, 1) := by decide +kernel
theorem dX9_does_134 : decode cX9_does 134 = .ok (.iconst 3, 1) := by decide +kernel
theorem dX9_does_135 : decode cX9_does 135 = .ok (.if_icmp .ne 12, 3) := by decide +kernel
theorem dX9_does_138 : decode cX9_does 138 = .ok (.aload_n 0, 1) := by decide +kernel
theorem dX9_does_139 : decode cX9_does 139 = .ok (.iload 4, 2) := by decide +kernel
theorem dX9_does_141 : decode cX9_does 141 = .ok (.invokevirtual 203, 3) := by decide +kernel
theorem dX9_does_144 : decode cX9_does 144 = .ok (.ifCond .ne 23, 3) := by decide +kernel
theorem dX9_does_147 : decode cX9_does 147 = .ok (.iload_n 2, 1) := by decide +kernel
theorem dX9_does_148 : decode cX9_does 148 = .ok (.iconst 4, 1) := by decide +kernel
theorem dX9_does_149 : decode cX9_does 149 = .ok (.if_icmp .ne 22, 3) := by decide +kernel
theorem dX9_does_152 : decode cX9_does 152 = .ok (.aload_n 0, 1) := by decide +kernel
theorem dX9_does_153 : decode cX9_does 153 = .ok (.aload_n 0, 1) := by decide +kernel
theorem dX9_does_154 : decode cX9_does 154 = .ok (.getfield 34, 3) := by decide +kernel
theorem dX9_does_157 : decode cX9_does 157 = .ok (.bipush 31, 2) := by decide +kernel
theorem dX9_does_159 : decode cX9_does 159 = .ok (.invokevirtual 133, 3) := by decide +kernel
theorem dX9_does_162 : decode cX9_does 162 = .ok (.iload 4, 2) := by decide +kernel
theorem dX9_does_164 : decode cX9_does 164 = .ok (.if_icmp .ne 7, 3) := by decide +kernel
theorem dX9_does_167 : decode cX9_does 167 = .ok (.iconst 1, 1) := by decide +kernel
theorem dX9_does_168 : decode cX9_does 168 = .ok (.goto 4, 3) := by decide +kernel
theorem dX9_does_171 : decode cX9_does 171 = .ok (.iconst 0, 1) := by decide +kernel
theorem dX9_does_172 : decode cX9_does 172 = .ok (.ireturn, 1) := by decide +kernel
theorem dX9_judge_0 : decode cX9_judge 0 = .ok (.aload_n 0, 1) := by decide +kernel
theorem dX9_judge_1 : decode cX9_judge 1 = .ok (.iconst 0, 1) := by decide +kernel
theorem dX9_judge_2 : decode cX9_judge 2 = .ok (.putfield 65, 3) := by decide +kernel
theorem dX9_judge_5 : decode cX9_judge 5 = .ok (.iload_n 1, 1) := by decide +kernel
theorem dX9_judge_6 : decode cX9_judge 6 = .ok (.i2l, 1) := by decide +kernel
theorem dX9_judge_7 : decode cX9_judge 7 = .ok (.lconst 1, 1) := by decide +kernel
theorem dX9_judge_8 : decode cX9_judge 8 = .ok (.ldc2_w 206, 3) := by decide +kernel
theorem dX9_judge_11 : decode cX9_judge 11 = .ok (.invokestatic 72, 3) := by decide +kernel
theorem dX9_judge_14 : decode cX9_judge 14 = .ok (.ifCond .eq 20, 3) := by decide +kernel
theorem dX9_judge_17 : decode cX9_judge 17 = .ok (.lload_n 2, 1) := by decide +kernel
theorem dX9_judge_18 : decode cX9_judge 18 = .ok (.lconst 0, 1) := by decide +kernel
theorem dX9_judge_19 : decode cX9_judge 19 = .ok (.ldc2_w 208, 3) := by decide +kernel
theorem dX9_judge_22 : decode cX9_judge 22 = .ok (.iload_n 1, 1) := by decide +kernel
theorem dX9_judge_23 : decode cX9_judge 23 = .ok (.invokestatic 210, 3) := by decide +kernel
theorem dX9_judge_26 : decode cX9_judge 26 = .ok (.lconst 1, 1) := by decide +kernel
theorem dX9_judge_27 : decode cX9_judge 27 = .ok (.lsub, 1) := by decide +kernel
theorem dX9_judge_28 : decode cX9_judge 28 = .ok (.invokestatic 72, 3) := by decide +kernel
theorem dX9_judge_31 : decode cX9_judge 31 = .ok (.ifCond .ne 6, 3) := by decide +kernel
theorem dX9_judge_34 : decode cX9_judge 34 = .ok (.bipush (-2), 2) := by decide +kernel
theorem dX9_judge_36 : decode cX9_judge 36 = .ok (.ireturn, 1) := by decide +kernel
theorem dX9_judge_37 : decode cX9_judge 37 = .ok (.aload_n 0, 1) := by decide +kernel
theorem dX9_judge_38 : decode cX9_judge 38 = .ok (.invokevirtual 169, 3) := by decide +kernel
theorem dX9_judge_41 : decode cX9_judge 41 = .ok (.iconst 0, 1) := by decide +kernel
theorem dX9_judge_42 : decode cX9_judge 42 = .ok (.istore 4, 2) := by decide +kernel
theorem dX9_judge_44 : decode cX9_judge 44 = .ok (.iload 4, 2) := by decide +kernel
theorem dX9_judge_46 : decode cX9_judge 46 = .ok (.iload_n 1, 1) := by decide +kernel
theorem dX9_judge_47 : decode cX9_judge 47 = .ok (.if_icmp .ge 38, 3) := by decide +kernel
theorem dX9_judge_50 : decode cX9_judge 50 = .ok (.aload_n 0, 1) := by decide +kernel
theorem dX9_judge_51 : decode cX9_judge 51 = .ok (.lload_n 2, 1) := by decide +kernel
theorem dX9_judge_52 : decode cX9_judge 52 = .ok (.ldc2_w 208, 3) := by decide +kernel
theorem dX9_judge_55 : decode cX9_judge 55 = .ok (.iload_n 1, 1) := by decide +kernel
theorem dX9_judge_56 : decode cX9_judge 56 = .ok (.iconst 1, 1) := by decide +kernel
theorem dX9_judge_57 : decode cX9_judge 57 = .ok (.isub, 1) := by decide +kernel
theorem dX9_judge_58 : decode cX9_judge 58 = .ok (.iload 4, 2) := by decide +kernel
theorem dX9_judge_60 : decode cX9_judge 60 = .ok (.isub, 1) := by decide +kernel
theorem dX9_judge_61 : decode cX9_judge 61 = .ok (.invokestatic 210, 3) := by decide +kernel
theorem dX9_judge_64 : decode cX9_judge 64 = .ok (.ldiv, 1) := by decide +kernel
theorem dX9_judge_65 : decode cX9_judge 65 = .ok (.ldc2_w 208, 3) := by decide +kernel
theorem dX9_judge_68 : decode cX9_judge 68 = .ok (.lrem, 1) := by decide +kernel
theorem dX9_judge_69 : decode cX9_judge 69 = .ok (.l2i, 1) := by decide +kernel
theorem dX9_judge_70 : decode cX9_judge 70 = .ok (.invokevirtual 214, 3) := by decide +kernel
theorem dX9_judge_73 : decode cX9_judge 73 = .ok (.ifCond .ne 6, 3) := by decide +kernel
theorem dX9_judge_76 : decode cX9_judge 76 = .ok (.iload 4, 2) := by decide +kernel
theorem dX9_judge_78 : decode cX9_judge 78 = .ok (.ireturn, 1) := by decide +kernel
theorem dX9_judge_79 : decode cX9_judge 79 = .ok (.iinc 4 1, 3) := by decide +kernel
theorem dX9_judge_82 : decode cX9_judge 82 = .ok (.goto (-38), 3) := by decide +kernel
theorem dX9_judge_85 : decode cX9_judge 85 = .ok (.bipush (-9), 2) := by decide +kernel
theorem dX9_judge_87 : decode cX9_judge 87 = .ok (.ireturn, 1) := by decide +kernel
theorem dX9_ways_0 : decode cX9_ways 0 = .ok (.iconst 1, 1) := by decide +kernel
theorem dX9_ways_1 : decode cX9_ways 1 = .ok (.istore_n 1, 1) := by decide +kernel
theorem dX9_ways_2 : decode cX9_ways 2 = .ok (.iconst 2, 1) := by decide +kernel
theorem dX9_ways_3 : decode cX9_ways 3 = .ok (.istore_n 2, 1) := by decide +kernel
theorem dX9_ways_4 : decode cX9_ways 4 = .ok (.iload_n 2, 1) := by decide +kernel
theorem dX9_ways_5 : decode cX9_ways 5 = .ok (.iload_n 0, 1) := by decide +kernel
theorem dX9_ways_6 : decode cX9_ways 6 = .ok (.if_icmp .gt 13, 3) := by decide +kernel
theorem dX9_ways_9 : decode cX9_ways 9 = .ok (.iload_n 1, 1) := by decide +kernel
theorem dX9_ways_10 : decode cX9_ways 10 = .ok (.iload_n 2, 1) := by decide +kernel
theorem dX9_ways_11 : decode cX9_ways 11 = .ok (.imul, 1) := by decide +kernel
theorem dX9_ways_12 : decode cX9_ways 12 = .ok (.istore_n 1, 1) := by decide +kernel
theorem dX9_ways_13 : decode cX9_ways 13 = .ok (.iinc 2 1, 3) := by decide +kernel
theorem dX9_ways_16 : decode cX9_ways 16 = .ok (.goto (-12), 3) := by decide +kernel
theorem dX9_ways_19 : decode cX9_ways 19 = .ok (.iload_n 1, 1) := by decide +kernel
theorem dX9_ways_20 : decode cX9_ways 20 = .ok (.ireturn, 1) := by decide +kernel
theorem dX9_divisor_0 : decode cX9_divisor 0 = .ok (.iload_n 0, 1) := by decide +kernel
theorem dX9_divisor_1 : decode cX9_divisor 1 = .ok (.ifCond .ge 8, 3) := by decide +kernel
theorem dX9_divisor_4 : decode cX9_divisor 4 = .ok (.iload_n 0, 1) := by decide +kernel
theorem dX9_divisor_5 : decode cX9_divisor 5 = .ok (.ineg, 1) := by decide +kernel
theorem dX9_divisor_6 : decode cX9_divisor 6 = .ok (.goto 4, 3) := by decide +kernel
theorem dX9_divisor_9 : decode cX9_divisor 9 = .ok (.iload_n 0, 1) := by decide +kernel
theorem dX9_divisor_10 : decode cX9_divisor 10 = .ok (.istore_n 2, 1) := by decide +kernel
theorem dX9_divisor_11 : decode cX9_divisor 11 = .ok (.iload_n 1, 1) := by decide +kernel
theorem dX9_divisor_12 : decode cX9_divisor 12 = .ok (.istore_n 3, 1) := by decide +kernel
theorem dX9_divisor_13 : decode cX9_divisor 13 = .ok (.iload_n 3, 1) := by decide +kernel
theorem dX9_divisor_14 : decode cX9_divisor 14 = .ok (.ifCond .eq 16, 3) := by decide +kernel
theorem dX9_divisor_17 : decode cX9_divisor 17 = .ok (.iload_n 2, 1) := by decide +kernel
theorem dX9_divisor_18 : decode cX9_divisor 18 = .ok (.iload_n 3, 1) := by decide +kernel
theorem dX9_divisor_19 : decode cX9_divisor 19 = .ok (.irem, 1) := by decide +kernel
theorem dX9_divisor_20 : decode cX9_divisor 20 = .ok (.istore 4, 2) := by decide +kernel
theorem dX9_divisor_22 : decode cX9_divisor 22 = .ok (.iload_n 3, 1) := by decide +kernel
theorem dX9_divisor_23 : decode cX9_divisor 23 = .ok (.istore_n 2, 1) := by decide +kernel
theorem dX9_divisor_24 : decode cX9_divisor 24 = .ok (.iload 4, 2) := by decide +kernel
theorem dX9_divisor_26 : decode cX9_divisor 26 = .ok (.istore_n 3, 1) := by decide +kernel
theorem dX9_divisor_27 : decode cX9_divisor 27 = .ok (.goto (-14), 3) := by decide +kernel
theorem dX9_divisor_30 : decode cX9_divisor 30 = .ok (.iload_n 2, 1) := by decide +kernel
theorem dX9_divisor_31 : decode cX9_divisor 31 = .ok (.ireturn, 1) := by decide +kernel
theorem dX9_fraction_0 : decode cX9_fraction 0 = .ok (.iload_n 0, 1) := by decide +kernel
theorem dX9_fraction_1 : decode cX9_fraction 1 = .ok (.iload_n 1, 1) := by decide +kernel
theorem dX9_fraction_2 : decode cX9_fraction 2 = .ok (.invokestatic 217, 3) := by decide +kernel
theorem dX9_fraction_5 : decode cX9_fraction 5 = .ok (.istore_n 3, 1) := by decide +kernel
theorem dX9_fraction_6 : decode cX9_fraction 6 = .ok (.iload_n 2, 1) := by decide +kernel
theorem dX9_fraction_7 : decode cX9_fraction 7 = .ok (.ifCond .eq 9, 3) := by decide +kernel
theorem dX9_fraction_10 : decode cX9_fraction 10 = .ok (.iload_n 0, 1) := by decide +kernel
theorem dX9_fraction_11 : decode cX9_fraction 11 = .ok (.iload_n 3, 1) := by decide +kernel
theorem dX9_fraction_12 : decode cX9_fraction 12 = .ok (.idiv, 1) := by decide +kernel
theorem dX9_fraction_13 : decode cX9_fraction 13 = .ok (.goto 6, 3) := by decide +kernel
theorem dX9_fraction_16 : decode cX9_fraction 16 = .ok (.iload_n 1, 1) := by decide +kernel
theorem dX9_fraction_17 : decode cX9_fraction 17 = .ok (.iload_n 3, 1) := by decide +kernel
theorem dX9_fraction_18 : decode cX9_fraction 18 = .ok (.idiv, 1) := by decide +kernel
theorem dX9_fraction_19 : decode cX9_fraction 19 = .ok (.ireturn, 1) := by decide +kernel
theorem dX9_share_0 : decode cX9_share 0 = .ok (.aload_n 0, 1) := by decide +kernel
theorem dX9_share_1 : decode cX9_share 1 = .ok (.iconst 0, 1) := by decide +kernel
theorem dX9_share_2 : decode cX9_share 2 = .ok (.putfield 65, 3) := by decide +kernel
theorem dX9_share_5 : decode cX9_share 5 = .ok (.aload_n 0, 1) := by decide +kernel
theorem dX9_share_6 : decode cX9_share 6 = .ok (.iload_n 1, 1) := by decide +kernel
theorem dX9_share_7 : decode cX9_share 7 = .ok (.invokevirtual 154, 3) := by decide +kernel
theorem dX9_share_10 : decode cX9_share 10 = .ok (.ifCond .eq 5, 3) := by decide +kernel
theorem dX9_share_13 : decode cX9_share 13 = .ok (.iconst (-1), 1) := by decide +kernel
theorem dX9_share_14 : decode cX9_share 14 = .ok (.ireturn, 1) := by decide +kernel
theorem dX9_share_15 : decode cX9_share 15 = .ok (.iconst 0, 1) := by decide +kernel
theorem dX9_share_16 : decode cX9_share 16 = .ok (.istore_n 3, 1) := by decide +kernel
theorem dX9_share_17 : decode cX9_share 17 = .ok (.iload_n 3, 1) := by decide +kernel
theorem dX9_share_18 : decode cX9_share 18 = .ok (.iconst 1, 1) := by decide +kernel
theorem dX9_share_19 : decode cX9_share 19 = .ok (.aload_n 0, 1) := by decide +kernel
theorem dX9_share_20 : decode cX9_share 20 = .ok (.getfield 69, 3) := by decide +kernel
theorem dX9_share_23 : decode cX9_share 23 = .ok (.ishl, 1) := by decide +kernel
theorem dX9_share_24 : decode cX9_share 24 = .ok (.if_icmp .ge 42, 3) := by decide +kernel
theorem dX9_share_27 : decode cX9_share 27 = .ok (.aload_n 0, 1) := by decide +kernel
theorem dX9_share_28 : decode cX9_share 28 = .ok (.invokevirtual 169, 3) := by decide +kernel
theorem dX9_share_31 : decode cX9_share 31 = .ok (.aload_n 0, 1) := by decide +kernel
theorem dX9_share_32 : decode cX9_share 32 = .ok (.iconst 5, 1) := by decide +kernel
theorem dX9_share_33 : decode cX9_share 33 = .ok (.iload_n 3, 1) := by decide +kernel
theorem dX9_share_34 : decode cX9_share 34 = .ok (.invokevirtual 172, 3) := by decide +kernel
theorem dX9_share_37 : decode cX9_share 37 = .ok (.aload_n 0, 1) := by decide +kernel
theorem dX9_share_38 : decode cX9_share 38 = .ok (.getfield 62, 3) := by decide +kernel
theorem dX9_share_41 : decode cX9_share 41 = .ok (.iload_n 3, 1) := by decide +kernel
theorem dX9_share_42 : decode cX9_share 42 = .ok (.iload_n 3, 1) := by decide +kernel
theorem dX9_share_43 : decode cX9_share 43 = .ok (.ifCond .ne 10, 3) := by decide +kernel
theorem dX9_share_46 : decode cX9_share 46 = .ok (.aload_n 0, 1) := by decide +kernel
theorem dX9_share_47 : decode cX9_share 47 = .ok (.getfield 111, 3) := by decide +kernel
theorem dX9_share_50 : decode cX9_share 50 = .ok (.goto 9, 3) := by decide +kernel
theorem dX9_share_53 : decode cX9_share 53 = .ok (.aload_n 0, 1) := by decide +kernel
theorem dX9_share_54 : decode cX9_share 54 = .ok (.getfield 34, 3) := by decide +kernel
theorem dX9_share_57 : decode cX9_share 57 = .ok (.iconst 0, 1) := by decide +kernel
theorem dX9_share_58 : decode cX9_share 58 = .ok (.iaload, 1) := by decide +kernel
theorem dX9_share_59 : decode cX9_share 59 = .ok (.iastore, 1) := by decide +kernel
theorem dX9_share_60 : decode cX9_share 60 = .ok (.iinc 3 1, 3) := by decide +kernel
theorem dX9_share_63 : decode cX9_share 63 = .ok (.goto (-46), 3) := by decide +kernel
theorem dX9_share_66 : decode cX9_share 66 = .ok (.iconst 0, 1) := by decide +kernel
theorem dX9_share_67 : decode cX9_share 67 = .ok (.istore_n 3, 1) := by decide +kernel
theorem dX9_share_68 : decode cX9_share 68 = .ok (.iconst 0, 1) := by decide +kernel
theorem dX9_share_69 : decode cX9_share 69 = .ok (.istore 4, 2) := by decide +kernel
theorem dX9_share_71 : decode cX9_share 71 = .ok (.iload 4, 2) := by decide +kernel
theorem dX9_share_73 : decode cX9_share 73 = .ok (.iconst 1, 1) := by decide +kernel
theorem dX9_share_74 : decode cX9_share 74 = .ok (.aload_n 0, 1) := by decide +kernel
theorem dX9_share_75 : decode cX9_share 75 = .ok (.getfield 69, 3) := by decide +kernel
theorem dX9_share_78 : decode cX9_share 78 = .ok (.ishl, 1) := by decide +kernel
theorem dX9_share_79 : decode cX9_share 79 = .ok (.if_icmp .ge 66, 3) := by decide +kernel
theorem dX9_share_82 : decode cX9_share 82 = .ok (.iload 4, 2) := by decide +kernel
theorem dX9_share_84 : decode cX9_share 84 = .ok (.iload_n 1, 1) := by decide +kernel
theorem dX9_share_85 : decode cX9_share 85 = .ok (.invokestatic 121, 3) := by decide +kernel
theorem dX9_share_88 : decode cX9_share 88 = .ok (.ifCond .ne 51, 3) := by decide +kernel
theorem dX9_share_91 : decode cX9_share 91 = .ok (.iload 4, 2) := by decide +kernel
theorem dX9_share_93 : decode cX9_share 93 = .ok (.invokestatic 220, 3) := by decide +kernel
theorem dX9_share_96 : decode cX9_share 96 = .ok (.istore 5, 2) := by decide +kernel
theorem dX9_share_98 : decode cX9_share 98 = .ok (.iload_n 3, 1) := by decide +kernel
theorem dX9_share_99 : decode cX9_share 99 = .ok (.iload 5, 2) := by decide +kernel
theorem dX9_share_101 : decode cX9_share 101 = .ok (.invokestatic 223, 3) := by decide +kernel
theorem dX9_share_104 : decode cX9_share 104 = .ok (.aload_n 0, 1) := by decide +kernel
theorem dX9_share_105 : decode cX9_share 105 = .ok (.getfield 69, 3) := by decide +kernel
theorem dX9_share_108 : decode cX9_share 108 = .ok (.iconst 1, 1) := by decide +kernel
theorem dX9_share_109 : decode cX9_share 109 = .ok (.isub, 1) := by decide +kernel
theorem dX9_share_110 : decode cX9_share 110 = .ok (.iload 5, 2) := by decide +kernel
theorem dX9_share_112 : decode cX9_share 112 = .ok (.isub, 1) := by decide +kernel
theorem dX9_share_113 : decode cX9_share 113 = .ok (.invokestatic 223, 3) := by decide +kernel
theorem dX9_share_116 : decode cX9_share 116 = .ok (.imul, 1) := by decide +kernel
theorem dX9_share_117 : decode cX9_share 117 = .ok (.aload_n 0, 1) := by decide +kernel
theorem dX9_share_118 : decode cX9_share 118 = .ok (.getfield 62, 3) := by decide +kernel
theorem dX9_share_121 : decode cX9_share 121 = .ok (.iload 4, 2) := by decide +kernel
theorem dX9_share_123 : decode cX9_share 123 = .ok (.iaload, 1) := by decide +kernel
theorem dX9_share_124 : decode cX9_share 124 = .ok (.aload_n 0, 1) := by decide +kernel
theorem dX9_share_125 : decode cX9_share 125 = .ok (.getfield 62, 3) := by decide +kernel
theorem dX9_share_128 : decode cX9_share 128 = .ok (.iload 4, 2) := by decide +kernel
theorem dX9_share_130 : decode cX9_share 130 = .ok (.iconst 1, 1) := by decide +kernel
theorem dX9_share_131 : decode cX9_share 131 = .ok (.iload_n 1, 1) := by decide +kernel
theorem dX9_share_132 : decode cX9_share 132 = .ok (.ishl, 1) := by decide +kernel
theorem dX9_share_133 : decode cX9_share 133 = .ok (.ior, 1) := by decide +kernel
theorem dX9_share_134 : decode cX9_share 134 = .ok (.iaload, 1) := by decide +kernel
theorem dX9_share_135 : decode cX9_share 135 = .ok (.isub, 1) := by decide +kernel
theorem dX9_share_136 : decode cX9_share 136 = .ok (.imul, 1) := by decide +kernel
theorem dX9_share_137 : decode cX9_share 137 = .ok (.iadd, 1) := by decide +kernel
theorem dX9_share_138 : decode cX9_share 138 = .ok (.istore_n 3, 1) := by decide +kernel
theorem dX9_share_139 : decode cX9_share 139 = .ok (.iinc 4 1, 3) := by decide +kernel
theorem dX9_share_142 : decode cX9_share 142 = .ok (.goto (-71), 3) := by decide +kernel
theorem dX9_share_145 : decode cX9_share 145 = .ok (.iload_n 3, 1) := by decide +kernel
theorem dX9_share_146 : decode cX9_share 146 = .ok (.aload_n 0, 1) := by decide +kernel
theorem dX9_share_147 : decode cX9_share 147 = .ok (.getfield 69, 3) := by decide +kernel
theorem dX9_share_150 : decode cX9_share 150 = .ok (.invokestatic 223, 3) := by decide +kernel
theorem dX9_share_153 : decode cX9_share 153 = .ok (.iload_n 2, 1) := by decide +kernel
theorem dX9_share_154 : decode cX9_share 154 = .ok (.invokestatic 226, 3) := by decide +kernel
theorem dX9_share_157 : decode cX9_share 157 = .ok (.ireturn, 1) := by decide +kernel
theorem dX9_attempt_0 : decode cX9_attempt 0 = .ok (.aload_n 0, 1) := by decide +kernel
theorem dX9_attempt_1 : decode cX9_attempt 1 = .ok (.iconst 0, 1) := by decide +kernel
theorem dX9_attempt_2 : decode cX9_attempt 2 = .ok (.putfield 65, 3) := by decide +kernel
theorem dX9_attempt_5 : decode cX9_attempt 5 = .ok (.iload_n 1, 1) := by decide +kernel
theorem dX9_attempt_6 : decode cX9_attempt 6 = .ok (.i2l, 1) := by decide +kernel
theorem dX9_attempt_7 : decode cX9_attempt 7 = .ok (.lconst 0, 1) := by decide +kernel
theorem dX9_attempt_8 : decode cX9_attempt 8 = .ok (.ldc2_w 230, 3) := by decide +kernel
theorem dX9_attempt_11 : decode cX9_attempt 11 = .ok (.invokestatic 72, 3) := by decide +kernel
theorem dX9_attempt_14 : decode cX9_attempt 14 = .ok (.ifCond .eq 25, 3) := by decide +kernel
theorem dX9_attempt_17 : decode cX9_attempt 17 = .ok (.iload_n 2, 1) := by decide +kernel
theorem dX9_attempt_18 : decode cX9_attempt 18 = .ok (.i2l, 1) := by decide +kernel
theorem dX9_attempt_19 : decode cX9_attempt 19 = .ok (.lconst 1, 1) := by decide +kernel
theorem dX9_attempt_20 : decode cX9_attempt 20 = .ok (.ldc2_w 232, 3) := by decide +kernel
theorem dX9_attempt_23 : decode cX9_attempt 23 = .ok (.invokestatic 72, 3) := by decide +kernel
theorem dX9_attempt_26 : decode cX9_attempt 26 = .ok (.ifCond .eq 13, 3) := by decide +kernel
theorem dX9_attempt_29 : decode cX9_attempt 29 = .ok (.iload_n 3, 1) := by decide +kernel
theorem dX9_attempt_30 : decode cX9_attempt 30 = .ok (.i2l, 1) := by decide +kernel
theorem dX9_attempt_31 : decode cX9_attempt 31 = .ok (.lconst 0, 1) := by decide +kernel
theorem dX9_attempt_32 : decode cX9_attempt 32 = .ok (.lconst 1, 1) := by decide +kernel
theorem dX9_attempt_33 : decode cX9_attempt 33 = .ok (.invokestatic 72, 3) := by decide +kernel
theorem dX9_attempt_36 : decode cX9_attempt 36 = .ok (.ifCond .ne 6, 3) := by decide +kernel
theorem dX9_attempt_39 : decode cX9_attempt 39 = .ok (.bipush (-2), 2) := by decide +kernel
theorem dX9_attempt_41 : decode cX9_attempt 41 = .ok (.ireturn, 1) := by decide +kernel
theorem dX9_attempt_42 : decode cX9_attempt 42 = .ok (.aload_n 0, 1) := by decide +kernel
theorem dX9_attempt_43 : decode cX9_attempt 43 = .ok (.getfield 151, 3) := by decide +kernel
theorem dX9_attempt_46 : decode cX9_attempt 46 = .ok (.bipush 6, 2) := by decide +kernel
theorem dX9_attempt_48 : decode cX9_attempt 48 = .ok (.if_icmp .ne 6, 3) := by decide +kernel
theorem dX9_attempt_51 : decode cX9_attempt 51 = .ok (.bipush (-4), 2) := by decide +kernel
theorem dX9_attempt_53 : decode cX9_attempt 53 = .ok (.ireturn, 1) := by decide +kernel
theorem dX9_attempt_54 : decode cX9_attempt 54 = .ok (.aload_n 0, 1) := by decide +kernel
theorem dX9_attempt_55 : decode cX9_attempt 55 = .ok (.getfield 50, 3) := by decide +kernel
theorem dX9_attempt_58 : decode cX9_attempt 58 = .ok (.aload_n 0, 1) := by decide +kernel
theorem dX9_attempt_59 : decode cX9_attempt 59 = .ok (.getfield 151, 3) := by decide +kernel
theorem dX9_attempt_62 : decode cX9_attempt 62 = .ok (.iload_n 1, 1) := by decide +kernel
theorem dX9_attempt_63 : decode cX9_attempt 63 = .ok (.iastore, 1) := by decide +kernel
theorem dX9_attempt_64 : decode cX9_attempt 64 = .ok (.aload_n 0, 1) := by decide +kernel
theorem dX9_attempt_65 : decode cX9_attempt 65 = .ok (.getfield 53, 3) := by decide +kernel
theorem dX9_attempt_68 : decode cX9_attempt 68 = .ok (.aload_n 0, 1) := by decide +kernel
theorem dX9_attempt_69 : decode cX9_attempt 69 = .ok (.getfield 151, 3) := by decide +kernel
theorem dX9_attempt_72 : decode cX9_attempt 72 = .ok (.iload_n 2, 1) := by decide +kernel
theorem dX9_attempt_73 : decode cX9_attempt 73 = .ok (.iastore, 1) := by decide +kernel
theorem dX9_attempt_74 : decode cX9_attempt 74 = .ok (.aload_n 0, 1) := by decide +kernel
theorem dX9_attempt_75 : decode cX9_attempt 75 = .ok (.getfield 56, 3) := by decide +kernel
theorem dX9_attempt_78 : decode cX9_attempt 78 = .ok (.aload_n 0, 1) := by decide +kernel
theorem dX9_attempt_79 : decode cX9_attempt 79 = .ok (.getfield 151, 3) := by decide +kernel
theorem dX9_attempt_82 : decode cX9_attempt 82 = .ok (.iload_n 3, 1) := by decide +kernel
theorem dX9_attempt_83 : decode cX9_attempt 83 = .ok (.iastore, 1) := by decide +kernel
theorem dX9_attempt_84 : decode cX9_attempt 84 = .ok (.aload_n 0, 1) := by decide +kernel
theorem dX9_attempt_85 : decode cX9_attempt 85 = .ok (.dup, 1) := by decide +kernel
theorem dX9_attempt_86 : decode cX9_attempt 86 = .ok (.getfield 151, 3) := by decide +kernel
theorem dX9_attempt_89 : decode cX9_attempt 89 = .ok (.iconst 1, 1) := by decide +kernel
theorem dX9_attempt_90 : decode cX9_attempt 90 = .ok (.iadd, 1) := by decide +kernel
theorem dX9_attempt_91 : decode cX9_attempt 91 = .ok (.putfield 151, 3) := by decide +kernel
theorem dX9_attempt_94 : decode cX9_attempt 94 = .ok (.aload_n 0, 1) := by decide +kernel
theorem dX9_attempt_95 : decode cX9_attempt 95 = .ok (.getfield 151, 3) := by decide +kernel
theorem dX9_attempt_98 : decode cX9_attempt 98 = .ok (.ireturn, 1) := by decide +kernel
theorem dX9_unattempt_0 : decode cX9_unattempt 0 = .ok (.aload_n 0, 1) := by decide +kernel
theorem dX9_unattempt_1 : decode cX9_unattempt 1 = .ok (.iconst 0, 1) := by decide +kernel
theorem dX9_unattempt_2 : decode cX9_unattempt 2 = .ok (.putfield 65, 3) := by decide +kernel
theorem dX9_unattempt_5 : decode cX9_unattempt 5 = .ok (.aload_n 0, 1) := by decide +kernel
theorem dX9_unattempt_6 : decode cX9_unattempt 6 = .ok (.getfield 151, 3) := by decide +kernel
theorem dX9_unattempt_9 : decode cX9_unattempt 9 = .ok (.istore_n 1, 1) := by decide +kernel
theorem dX9_unattempt_10 : decode cX9_unattempt 10 = .ok (.aload_n 0, 1) := by decide +kernel
theorem dX9_unattempt_11 : decode cX9_unattempt 11 = .ok (.iconst 0, 1) := by decide +kernel
theorem dX9_unattempt_12 : decode cX9_unattempt 12 = .ok (.putfield 151, 3) := by decide +kernel
theorem dX9_unattempt_15 : decode cX9_unattempt 15 = .ok (.iload_n 1, 1) := by decide +kernel
theorem dX9_unattempt_16 : decode cX9_unattempt 16 = .ok (.ireturn, 1) := by decide +kernel
theorem dX9_paces_0 : decode cX9_paces 0 = .ok (.aload_n 0, 1) := by decide +kernel
theorem dX9_paces_1 : decode cX9_paces 1 = .ok (.iconst 0, 1) := by decide +kernel
theorem dX9_paces_2 : decode cX9_paces 2 = .ok (.putfield 65, 3) := by decide +kernel
theorem dX9_paces_5 : decode cX9_paces 5 = .ok (.iload_n 1, 1) := by decide +kernel
theorem dX9_paces_6 : decode cX9_paces 6 = .ok (.i2l, 1) := by decide +kernel
theorem dX9_paces_7 : decode cX9_paces 7 = .ok (.lconst 0, 1) := by decide +kernel
theorem dX9_paces_8 : decode cX9_paces 8 = .ok (.lconst 1, 1) := by decide +kernel
theorem dX9_paces_9 : decode cX9_paces 9 = .ok (.invokestatic 72, 3) := by decide +kernel
theorem dX9_paces_12 : decode cX9_paces 12 = .ok (.ifCond .ne 6, 3) := by decide +kernel
theorem dX9_paces_15 : decode cX9_paces 15 = .ok (.bipush (-2), 2) := by decide +kernel
