theorem dX8_again_20 : decode cX8_again 20 = .ok (.laload, 1) := by decide +kernel
theorem dX8_again_21 : decode cX8_again 21 = .ok (.ldc2_w 69, 3) := by decide +kernel
theorem dX8_again_24 : decode cX8_again 24 = .ok (.lcmp, 1) := by decide +kernel
theorem dX8_again_25 : decode cX8_again 25 = .ok (.ifCond .ne 6, 3) := by decide +kernel
theorem dX8_again_28 : decode cX8_again 28 = .ok (.bipush (-3), 2) := by decide +kernel
theorem dX8_again_30 : decode cX8_again 30 = .ok (.ireturn, 1) := by decide +kernel
theorem dX8_again_31 : decode cX8_again 31 = .ok (.aload_n 0, 1) := by decide +kernel
theorem dX8_again_32 : decode cX8_again 32 = .ok (.getfield 35, 3) := by decide +kernel
theorem dX8_again_35 : decode cX8_again 35 = .ok (.aload_n 0, 1) := by decide +kernel
theorem dX8_again_36 : decode cX8_again 36 = .ok (.getfield 71, 3) := by decide +kernel
theorem dX8_again_39 : decode cX8_again 39 = .ok (.iload_n 1, 1) := by decide +kernel
theorem dX8_again_40 : decode cX8_again 40 = .ok (.laload, 1) := by decide +kernel
theorem dX8_again_41 : decode cX8_again 41 = .ok (.invokevirtual 185, 3) := by decide +kernel
theorem dX8_again_44 : decode cX8_again 44 = .ok (.aload_n 0, 1) := by decide +kernel
theorem dX8_again_45 : decode cX8_again 45 = .ok (.getfield 42, 3) := by decide +kernel
theorem dX8_again_48 : decode cX8_again 48 = .ok (.invokevirtual 99, 3) := by decide +kernel
theorem dX8_again_51 : decode cX8_again 51 = .ok (.aload_n 0, 1) := by decide +kernel
theorem dX8_again_52 : decode cX8_again 52 = .ok (.getfield 35, 3) := by decide +kernel
theorem dX8_again_55 : decode cX8_again 55 = .ok (.invokevirtual 112, 3) := by decide +kernel
theorem dX8_again_58 : decode cX8_again 58 = .ok (.ireturn, 1) := by decide +kernel
theorem dX8_isChoice_0 : decode cX8_isChoice 0 = .ok (.iload_n 0, 1) := by decide +kernel
theorem dX8_isChoice_1 : decode cX8_isChoice 1 = .ok (.ifCond .eq 8, 3) := by decide +kernel
theorem dX8_isChoice_4 : decode cX8_isChoice 4 = .ok (.iload_n 0, 1) := by decide +kernel
theorem dX8_isChoice_5 : decode cX8_isChoice 5 = .ok (.iconst 1, 1) := by decide +kernel
theorem dX8_isChoice_6 : decode cX8_isChoice 6 = .ok (.if_icmp .ne 7, 3) := by decide +kernel
theorem dX8_isChoice_9 : decode cX8_isChoice 9 = .ok (.iconst 1, 1) := by decide +kernel
theorem dX8_isChoice_10 : decode cX8_isChoice 10 = .ok (.goto 4, 3) := by decide +kernel
theorem dX8_isChoice_13 : decode cX8_isChoice 13 = .ok (.iconst 0, 1) := by decide +kernel
theorem dX8_isChoice_14 : decode cX8_isChoice 14 = .ok (.ireturn, 1) := by decide +kernel
theorem dX8_factorial_0 : decode cX8_factorial 0 = .ok (.iload_n 0, 1) := by decide +kernel
theorem dX8_factorial_1 : decode cX8_factorial 1 = .ok (.ifCond .lt 19, 3) := by decide +kernel
theorem dX8_factorial_4 : decode cX8_factorial 4 = .ok (.iload_n 0, 1) := by decide +kernel
theorem dX8_factorial_5 : decode cX8_factorial 5 = .ok (.getstatic 273, 3) := by decide +kernel
theorem dX8_factorial_8 : decode cX8_factorial 8 = .ok (.arraylength, 1) := by decide +kernel
theorem dX8_factorial_9 : decode cX8_factorial 9 = .ok (.if_icmp .ge 11, 3) := by decide +kernel
theorem dX8_factorial_12 : decode cX8_factorial 12 = .ok (.getstatic 273, 3) := by decide +kernel
theorem dX8_factorial_15 : decode cX8_factorial 15 = .ok (.iload_n 0, 1) := by decide +kernel
theorem dX8_factorial_16 : decode cX8_factorial 16 = .ok (.iaload, 1) := by decide +kernel
theorem dX8_factorial_17 : decode cX8_factorial 17 = .ok (.goto 4, 3) := by decide +kernel
theorem dX8_factorial_20 : decode cX8_factorial 20 = .ok (.iconst 1, 1) := by decide +kernel
theorem dX8_factorial_21 : decode cX8_factorial 21 = .ok (.ireturn, 1) := by decide +kernel
theorem dX8_power_0 : decode cX8_power 0 = .ok (.iconst 1, 1) := by decide +kernel
theorem dX8_power_1 : decode cX8_power 1 = .ok (.istore_n 2, 1) := by decide +kernel
theorem dX8_power_2 : decode cX8_power 2 = .ok (.iconst 0, 1) := by decide +kernel
theorem dX8_power_3 : decode cX8_power 3 = .ok (.istore_n 3, 1) := by decide +kernel
theorem dX8_power_4 : decode cX8_power 4 = .ok (.iload_n 3, 1) := by decide +kernel
theorem dX8_power_5 : decode cX8_power 5 = .ok (.iload_n 1, 1) := by decide +kernel
theorem dX8_power_6 : decode cX8_power 6 = .ok (.if_icmp .ge 13, 3) := by decide +kernel
theorem dX8_power_9 : decode cX8_power 9 = .ok (.iload_n 2, 1) := by decide +kernel
theorem dX8_power_10 : decode cX8_power 10 = .ok (.iload_n 0, 1) := by decide +kernel
theorem dX8_power_11 : decode cX8_power 11 = .ok (.imul, 1) := by decide +kernel
theorem dX8_power_12 : decode cX8_power 12 = .ok (.istore_n 2, 1) := by decide +kernel
theorem dX8_power_13 : decode cX8_power 13 = .ok (.iinc 3 1, 3) := by decide +kernel
theorem dX8_power_16 : decode cX8_power 16 = .ok (.goto (-12), 3) := by decide +kernel
theorem dX8_power_19 : decode cX8_power 19 = .ok (.iload_n 2, 1) := by decide +kernel
theorem dX8_power_20 : decode cX8_power 20 = .ok (.ireturn, 1) := by decide +kernel
theorem dX8_speedBy_0 : decode cX8_speedBy 0 = .ok (.iload_n 1, 1) := by decide +kernel
theorem dX8_speedBy_1 : decode cX8_speedBy 1 = .ok (.ifCond .lt 19, 3) := by decide +kernel
theorem dX8_speedBy_4 : decode cX8_speedBy 4 = .ok (.iload_n 1, 1) := by decide +kernel
theorem dX8_speedBy_5 : decode cX8_speedBy 5 = .ok (.getstatic 277, 3) := by decide +kernel
theorem dX8_speedBy_8 : decode cX8_speedBy 8 = .ok (.arraylength, 1) := by decide +kernel
theorem dX8_speedBy_9 : decode cX8_speedBy 9 = .ok (.if_icmp .ge 11, 3) := by decide +kernel
theorem dX8_speedBy_12 : decode cX8_speedBy 12 = .ok (.getstatic 277, 3) := by decide +kernel
theorem dX8_speedBy_15 : decode cX8_speedBy 15 = .ok (.iload_n 1, 1) := by decide +kernel
theorem dX8_speedBy_16 : decode cX8_speedBy 16 = .ok (.iaload, 1) := by decide +kernel
theorem dX8_speedBy_17 : decode cX8_speedBy 17 = .ok (.goto 4, 3) := by decide +kernel
theorem dX8_speedBy_20 : decode cX8_speedBy 20 = .ok (.iconst 0, 1) := by decide +kernel
theorem dX8_speedBy_21 : decode cX8_speedBy 21 = .ok (.istore_n 3, 1) := by decide +kernel
theorem dX8_speedBy_22 : decode cX8_speedBy 22 = .ok (.iload_n 0, 1) := by decide +kernel
theorem dX8_speedBy_23 : decode cX8_speedBy 23 = .ok (.iload_n 3, 1) := by decide +kernel
theorem dX8_speedBy_24 : decode cX8_speedBy 24 = .ok (.iload_n 2, 1) := by decide +kernel
theorem dX8_speedBy_25 : decode cX8_speedBy 25 = .ok (.imul, 1) := by decide +kernel
theorem dX8_speedBy_26 : decode cX8_speedBy 26 = .ok (.isub, 1) := by decide +kernel
theorem dX8_speedBy_27 : decode cX8_speedBy 27 = .ok (.istore 4, 2) := by decide +kernel
theorem dX8_speedBy_29 : decode cX8_speedBy 29 = .ok (.iload 4, 2) := by decide +kernel
theorem dX8_speedBy_31 : decode cX8_speedBy 31 = .ok (.iconst 1, 1) := by decide +kernel
theorem dX8_speedBy_32 : decode cX8_speedBy 32 = .ok (.if_icmp .ge 7, 3) := by decide +kernel
theorem dX8_speedBy_35 : decode cX8_speedBy 35 = .ok (.iconst 1, 1) := by decide +kernel
theorem dX8_speedBy_36 : decode cX8_speedBy 36 = .ok (.goto 5, 3) := by decide +kernel
theorem dX8_speedBy_39 : decode cX8_speedBy 39 = .ok (.iload 4, 2) := by decide +kernel
theorem dX8_speedBy_41 : decode cX8_speedBy 41 = .ok (.ireturn, 1) := by decide +kernel
theorem dX8_termOf_0 : decode cX8_termOf 0 = .ok (.iload_n 0, 1) := by decide +kernel
theorem dX8_termOf_1 : decode cX8_termOf 1 = .ok (.invokestatic 280, 3) := by decide +kernel
theorem dX8_termOf_4 : decode cX8_termOf 4 = .ok (.iload_n 1, 1) := by decide +kernel
theorem dX8_termOf_5 : decode cX8_termOf 5 = .ok (.invokestatic 285, 3) := by decide +kernel
theorem dX8_termOf_8 : decode cX8_termOf 8 = .ok (.istore_n 3, 1) := by decide +kernel
theorem dX8_termOf_9 : decode cX8_termOf 9 = .ok (.iload_n 3, 1) := by decide +kernel
theorem dX8_termOf_10 : decode cX8_termOf 10 = .ok (.ifCond .ne 5, 3) := by decide +kernel
theorem dX8_termOf_13 : decode cX8_termOf 13 = .ok (.iconst 0, 1) := by decide +kernel
theorem dX8_termOf_14 : decode cX8_termOf 14 = .ok (.ireturn, 1) := by decide +kernel
theorem dX8_termOf_15 : decode cX8_termOf 15 = .ok (.iload_n 2, 1) := by decide +kernel
theorem dX8_termOf_16 : decode cX8_termOf 16 = .ok (.ifCond .eq 7, 3) := by decide +kernel
theorem dX8_termOf_19 : decode cX8_termOf 19 = .ok (.iload_n 0, 1) := by decide +kernel
theorem dX8_termOf_20 : decode cX8_termOf 20 = .ok (.goto 4, 3) := by decide +kernel
theorem dX8_termOf_23 : decode cX8_termOf 23 = .ok (.iload_n 1, 1) := by decide +kernel
theorem dX8_termOf_24 : decode cX8_termOf 24 = .ok (.iload_n 3, 1) := by decide +kernel
theorem dX8_termOf_25 : decode cX8_termOf 25 = .ok (.idiv, 1) := by decide +kernel
theorem dX8_termOf_26 : decode cX8_termOf 26 = .ok (.ireturn, 1) := by decide +kernel
theorem dX8_commonDivisor_0 : decode cX8_commonDivisor 0 = .ok (.iload_n 0, 1) := by decide +kernel
theorem dX8_commonDivisor_1 : decode cX8_commonDivisor 1 = .ok (.istore_n 2, 1) := by decide +kernel
theorem dX8_commonDivisor_2 : decode cX8_commonDivisor 2 = .ok (.iload_n 1, 1) := by decide +kernel
theorem dX8_commonDivisor_3 : decode cX8_commonDivisor 3 = .ok (.istore_n 3, 1) := by decide +kernel
theorem dX8_commonDivisor_4 : decode cX8_commonDivisor 4 = .ok (.iconst 0, 1) := by decide +kernel
theorem dX8_commonDivisor_5 : decode cX8_commonDivisor 5 = .ok (.istore 4, 2) := by decide +kernel
theorem dX8_commonDivisor_7 : decode cX8_commonDivisor 7 = .ok (.iload 4, 2) := by decide +kernel
theorem dX8_commonDivisor_9 : decode cX8_commonDivisor 9 = .ok (.bipush 64, 2) := by decide +kernel
theorem dX8_commonDivisor_11 : decode cX8_commonDivisor 11 = .ok (.if_icmp .ge 23, 3) := by decide +kernel
theorem dX8_commonDivisor_14 : decode cX8_commonDivisor 14 = .ok (.iload_n 3, 1) := by decide +kernel
theorem dX8_commonDivisor_15 : decode cX8_commonDivisor 15 = .ok (.ifCond .eq 19, 3) := by decide +kernel
theorem dX8_commonDivisor_18 : decode cX8_commonDivisor 18 = .ok (.iload_n 2, 1) := by decide +kernel
theorem dX8_commonDivisor_19 : decode cX8_commonDivisor 19 = .ok (.iload_n 3, 1) := by decide +kernel
theorem dX8_commonDivisor_20 : decode cX8_commonDivisor 20 = .ok (.irem, 1) := by decide +kernel
theorem dX8_commonDivisor_21 : decode cX8_commonDivisor 21 = .ok (.istore 5, 2) := by decide +kernel
theorem dX8_commonDivisor_23 : decode cX8_commonDivisor 23 = .ok (.iload_n 3, 1) := by decide +kernel
theorem dX8_commonDivisor_24 : decode cX8_commonDivisor 24 = .ok (.istore_n 2, 1) := by decide +kernel
theorem dX8_commonDivisor_25 : decode cX8_commonDivisor 25 = .ok (.iload 5, 2) := by decide +kernel
theorem dX8_commonDivisor_27 : decode cX8_commonDivisor 27 = .ok (.istore_n 3, 1) := by decide +kernel
theorem dX8_commonDivisor_28 : decode cX8_commonDivisor 28 = .ok (.iinc 4 1, 3) := by decide +kernel
theorem dX8_commonDivisor_31 : decode cX8_commonDivisor 31 = .ok (.goto (-24), 3) := by decide +kernel
theorem dX8_commonDivisor_34 : decode cX8_commonDivisor 34 = .ok (.iload_n 2, 1) := by decide +kernel
theorem dX8_commonDivisor_35 : decode cX8_commonDivisor 35 = .ok (.ireturn, 1) := by decide +kernel
theorem dX9_init_0 : decode cX9_init 0 = .ok (.aload_n 0, 1) := by decide +kernel
theorem dX9_init_1 : decode cX9_init 1 = .ok (.invokespecial 1, 3) := by decide +kernel
theorem dX9_init_4 : decode cX9_init 4 = .ok (.aload_n 0, 1) := by decide +kernel
theorem dX9_init_5 : decode cX9_init 5 = .ok (.bipush 48, 2) := by decide +kernel
theorem dX9_init_7 : decode cX9_init 7 = .ok (.newarray .int, 2) := by decide +kernel
theorem dX9_init_9 : decode cX9_init 9 = .ok (.putfield 7, 3) := by decide +kernel
theorem dX9_init_12 : decode cX9_init 12 = .ok (.aload_n 0, 1) := by decide +kernel
theorem dX9_init_13 : decode cX9_init 13 = .ok (.bipush 8, 2) := by decide +kernel
theorem dX9_init_15 : decode cX9_init 15 = .ok (.newarray .int, 2) := by decide +kernel
theorem dX9_init_17 : decode cX9_init 17 = .ok (.putfield 13, 3) := by decide +kernel
theorem dX9_init_20 : decode cX9_init 20 = .ok (.aload_n 0, 1) := by decide +kernel
theorem dX9_init_21 : decode cX9_init 21 = .ok (.bipush 8, 2) := by decide +kernel
theorem dX9_init_23 : decode cX9_init 23 = .ok (.newarray .int, 2) := by decide +kernel
theorem dX9_init_25 : decode cX9_init 25 = .ok (.putfield 16, 3) := by decide +kernel
theorem dX9_init_28 : decode cX9_init 28 = .ok (.aload_n 0, 1) := by decide +kernel
theorem dX9_init_29 : decode cX9_init 29 = .ok (.iconst 5, 1) := by decide +kernel
theorem dX9_init_30 : decode cX9_init 30 = .ok (.newarray .int, 2) := by decide +kernel
theorem dX9_init_32 : decode cX9_init 32 = .ok (.putfield 19, 3) := by decide +kernel
theorem dX9_init_35 : decode cX9_init 35 = .ok (.aload_n 0, 1) := by decide +kernel
theorem dX9_init_36 : decode cX9_init 36 = .ok (.iconst 5, 1) := by decide +kernel
theorem dX9_init_37 : decode cX9_init 37 = .ok (.newarray .int, 2) := by decide +kernel
theorem dX9_init_39 : decode cX9_init 39 = .ok (.putfield 22, 3) := by decide +kernel
theorem dX9_init_42 : decode cX9_init 42 = .ok (.aload_n 0, 1) := by decide +kernel
theorem dX9_init_43 : decode cX9_init 43 = .ok (.bipush 16, 2) := by decide +kernel
theorem dX9_init_45 : decode cX9_init 45 = .ok (.newarray .int, 2) := by decide +kernel
theorem dX9_init_47 : decode cX9_init 47 = .ok (.putfield 25, 3) := by decide +kernel
theorem dX9_init_50 : decode cX9_init 50 = .ok (.aload_n 0, 1) := by decide +kernel
theorem dX9_init_51 : decode cX9_init 51 = .ok (.bipush 15, 2) := by decide +kernel
theorem dX9_init_53 : decode cX9_init 53 = .ok (.newarray .int, 2) := by decide +kernel
theorem dX9_init_55 : decode cX9_init 55 = .ok (.putfield 28, 3) := by decide +kernel
theorem dX9_init_58 : decode cX9_init 58 = .ok (.aload_n 0, 1) := by decide +kernel
theorem dX9_init_59 : decode cX9_init 59 = .ok (.bipush 7, 2) := by decide +kernel
theorem dX9_init_61 : decode cX9_init 61 = .ok (.newarray .int, 2) := by decide +kernel
theorem dX9_init_63 : decode cX9_init 63 = .ok (.putfield 31, 3) := by decide +kernel
theorem dX9_init_66 : decode cX9_init 66 = .ok (.aload_n 0, 1) := by decide +kernel
theorem dX9_init_67 : decode cX9_init 67 = .ok (.bipush 7, 2) := by decide +kernel
theorem dX9_init_69 : decode cX9_init 69 = .ok (.newarray .int, 2) := by decide +kernel
theorem dX9_init_71 : decode cX9_init 71 = .ok (.putfield 34, 3) := by decide +kernel
theorem dX9_init_74 : decode cX9_init 74 = .ok (.aload_n 0, 1) := by decide +kernel
theorem dX9_init_75 : decode cX9_init 75 = .ok (.bipush 7, 2) := by decide +kernel
theorem dX9_init_77 : decode cX9_init 77 = .ok (.newarray .int, 2) := by decide +kernel
theorem dX9_init_79 : decode cX9_init 79 = .ok (.putfield 37, 3) := by decide +kernel
theorem dX9_init_82 : decode cX9_init 82 = .ok (.aload_n 0, 1) := by decide +kernel
theorem dX9_init_83 : decode cX9_init 83 = .ok (.bipush 98, 2) := by decide +kernel
theorem dX9_init_85 : decode cX9_init 85 = .ok (.newarray .int, 2) := by decide +kernel
theorem dX9_init_87 : decode cX9_init 87 = .ok (.putfield 40, 3) := by decide +kernel
theorem dX9_init_90 : decode cX9_init 90 = .ok (.aload_n 0, 1) := by decide +kernel
theorem dX9_init_91 : decode cX9_init 91 = .ok (.bipush 14, 2) := by decide +kernel
theorem dX9_init_93 : decode cX9_init 93 = .ok (.newarray .int, 2) := by decide +kernel
theorem dX9_init_95 : decode cX9_init 95 = .ok (.putfield 43, 3) := by decide +kernel
theorem dX9_init_98 : decode cX9_init 98 = .ok (.aload_n 0, 1) := by decide +kernel
theorem dX9_init_99 : decode cX9_init 99 = .ok (.iconst 2, 1) := by decide +kernel
theorem dX9_init_100 : decode cX9_init 100 = .ok (.newarray .boolean, 2) := by decide +kernel
theorem dX9_init_102 : decode cX9_init 102 = .ok (.putfield 46, 3) := by decide +kernel
theorem dX9_init_105 : decode cX9_init 105 = .ok (.aload_n 0, 1) := by decide +kernel
theorem dX9_init_106 : decode cX9_init 106 = .ok (.bipush 6, 2) := by decide +kernel
theorem dX9_init_108 : decode cX9_init 108 = .ok (.newarray .int, 2) := by decide +kernel
theorem dX9_init_110 : decode cX9_init 110 = .ok (.putfield 50, 3) := by decide +kernel
theorem dX9_init_113 : decode cX9_init 113 = .ok (.aload_n 0, 1) := by decide +kernel
theorem dX9_init_114 : decode cX9_init 114 = .ok (.bipush 6, 2) := by decide +kernel
theorem dX9_init_116 : decode cX9_init 116 = .ok (.newarray .int, 2) := by decide +kernel
theorem dX9_init_118 : decode cX9_init 118 = .ok (.putfield 53, 3) := by decide +kernel
theorem dX9_init_121 : decode cX9_init 121 = .ok (.aload_n 0, 1) := by decide +kernel
theorem dX9_init_122 : decode cX9_init 122 = .ok (.bipush 6, 2) := by decide +kernel
theorem dX9_init_124 : decode cX9_init 124 = .ok (.newarray .int, 2) := by decide +kernel
theorem dX9_init_126 : decode cX9_init 126 = .ok (.putfield 56, 3) := by decide +kernel
theorem dX9_init_129 : decode cX9_init 129 = .ok (.aload_n 0, 1) := by decide +kernel
theorem dX9_init_130 : decode cX9_init 130 = .ok (.bipush 8, 2) := by decide +kernel
theorem dX9_init_132 : decode cX9_init 132 = .ok (.newarray .int, 2) := by decide +kernel
theorem dX9_init_134 : decode cX9_init 134 = .ok (.putfield 59, 3) := by decide +kernel
theorem dX9_init_137 : decode cX9_init 137 = .ok (.aload_n 0, 1) := by decide +kernel
theorem dX9_init_138 : decode cX9_init 138 = .ok (.bipush 32, 2) := by decide +kernel
theorem dX9_init_140 : decode cX9_init 140 = .ok (.newarray .int, 2) := by decide +kernel
theorem dX9_init_142 : decode cX9_init 142 = .ok (.putfield 62, 3) := by decide +kernel
theorem dX9_init_145 : decode cX9_init 145 = .ok (.return_, 1) := by decide +kernel
theorem dX9_in_0 : decode cX9_in 0 = .ok (.lload_n 0, 1) := by decide +kernel
theorem dX9_in_1 : decode cX9_in 1 = .ok (.lload_n 2, 1) := by decide +kernel
theorem dX9_in_2 : decode cX9_in 2 = .ok (.lcmp, 1) := by decide +kernel
theorem dX9_in_3 : decode cX9_in 3 = .ok (.ifCond .lt 14, 3) := by decide +kernel
theorem dX9_in_6 : decode cX9_in 6 = .ok (.lload_n 0, 1) := by decide +kernel
theorem dX9_in_7 : decode cX9_in 7 = .ok (.lload 4, 2) := by decide +kernel
theorem dX9_in_9 : decode cX9_in 9 = .ok (.lcmp, 1) := by decide +kernel
theorem dX9_in_10 : decode cX9_in 10 = .ok (.ifCond .gt 7, 3) := by decide +kernel
theorem dX9_in_13 : decode cX9_in 13 = .ok (.iconst 1, 1) := by decide +kernel
theorem dX9_in_14 : decode cX9_in 14 = .ok (.goto 4, 3) := by decide +kernel
theorem dX9_in_17 : decode cX9_in 17 = .ok (.iconst 0, 1) := by decide +kernel
theorem dX9_in_18 : decode cX9_in 18 = .ok (.ireturn, 1) := by decide +kernel
theorem dX9_has_0 : decode cX9_has 0 = .ok (.iload_n 0, 1) := by decide +kernel
theorem dX9_has_1 : decode cX9_has 1 = .ok (.iload_n 1, 1) := by decide +kernel
theorem dX9_has_2 : decode cX9_has 2 = .ok (.ishr, 1) := by decide +kernel
theorem dX9_has_3 : decode cX9_has 3 = .ok (.iconst 1, 1) := by decide +kernel
theorem dX9_has_4 : decode cX9_has 4 = .ok (.iand, 1) := by decide +kernel
theorem dX9_has_5 : decode cX9_has 5 = .ok (.iconst 1, 1) := by decide +kernel
theorem dX9_has_6 : decode cX9_has 6 = .ok (.if_icmp .ne 7, 3) := by decide +kernel
theorem dX9_has_9 : decode cX9_has 9 = .ok (.iconst 1, 1) := by decide +kernel
theorem dX9_has_10 : decode cX9_has 10 = .ok (.goto 4, 3) := by decide +kernel
theorem dX9_has_13 : decode cX9_has 13 = .ok (.iconst 0, 1) := by decide +kernel
theorem dX9_has_14 : decode cX9_has 14 = .ok (.ireturn, 1) := by decide +kernel
theorem dX9_many_0 : decode cX9_many 0 = .ok (.iconst 0, 1) := by decide +kernel
theorem dX9_many_1 : decode cX9_many 1 = .ok (.istore_n 1, 1) := by decide +kernel
theorem dX9_many_2 : decode cX9_many 2 = .ok (.iconst 0, 1) := by decide +kernel
theorem dX9_many_3 : decode cX9_many 3 = .ok (.istore_n 2, 1) := by decide +kernel
theorem dX9_many_4 : decode cX9_many 4 = .ok (.iload_n 2, 1) := by decide +kernel
theorem dX9_many_5 : decode cX9_many 5 = .ok (.iconst 5, 1) := by decide +kernel
theorem dX9_many_6 : decode cX9_many 6 = .ok (.if_icmp .ge 17, 3) := by decide +kernel
theorem dX9_many_9 : decode cX9_many 9 = .ok (.iload_n 1, 1) := by decide +kernel
theorem dX9_many_10 : decode cX9_many 10 = .ok (.iload_n 0, 1) := by decide +kernel
theorem dX9_many_11 : decode cX9_many 11 = .ok (.iload_n 2, 1) := by decide +kernel
theorem dX9_many_12 : decode cX9_many 12 = .ok (.ishr, 1) := by decide +kernel
theorem dX9_many_13 : decode cX9_many 13 = .ok (.iconst 1, 1) := by decide +kernel
theorem dX9_many_14 : decode cX9_many 14 = .ok (.iand, 1) := by decide +kernel
theorem dX9_many_15 : decode cX9_many 15 = .ok (.iadd, 1) := by decide +kernel
theorem dX9_many_16 : decode cX9_many 16 = .ok (.istore_n 1, 1) := by decide +kernel
theorem dX9_many_17 : decode cX9_many 17 = .ok (.iinc 2 1, 3) := by decide +kernel
theorem dX9_many_20 : decode cX9_many 20 = .ok (.goto (-16), 3) := by decide +kernel
theorem dX9_many_23 : decode cX9_many 23 = .ok (.iload_n 1, 1) := by decide +kernel
theorem dX9_many_24 : decode cX9_many 24 = .ok (.ireturn, 1) := by decide +kernel
theorem dX9_power_0 : decode cX9_power 0 = .ok (.iconst 1, 1) := by decide +kernel
theorem dX9_power_1 : decode cX9_power 1 = .ok (.istore_n 2, 1) := by decide +kernel
theorem dX9_power_2 : decode cX9_power 2 = .ok (.iconst 0, 1) := by decide +kernel
theorem dX9_power_3 : decode cX9_power 3 = .ok (.istore_n 3, 1) := by decide +kernel
theorem dX9_power_4 : decode cX9_power 4 = .ok (.iload_n 3, 1) := by decide +kernel
theorem dX9_power_5 : decode cX9_power 5 = .ok (.iload_n 1, 1) := by decide +kernel
theorem dX9_power_6 : decode cX9_power 6 = .ok (.if_icmp .ge 13, 3) := by decide +kernel
theorem dX9_power_9 : decode cX9_power 9 = .ok (.iload_n 2, 1) := by decide +kernel
theorem dX9_power_10 : decode cX9_power 10 = .ok (.iload_n 0, 1) := by decide +kernel
theorem dX9_power_11 : decode cX9_power 11 = .ok (.imul, 1) := by decide +kernel
theorem dX9_power_12 : decode cX9_power 12 = .ok (.istore_n 2, 1) := by decide +kernel
theorem dX9_power_13 : decode cX9_power 13 = .ok (.iinc 3 1, 3) := by decide +kernel
theorem dX9_power_16 : decode cX9_power 16 = .ok (.goto (-12), 3) := by decide +kernel
theorem dX9_power_19 : decode cX9_power 19 = .ok (.iload_n 2, 1) := by decide +kernel
theorem dX9_power_20 : decode cX9_power 20 = .ok (.ireturn, 1) := by decide +kernel
theorem dX9_noMan_0 : decode cX9_noMan 0 = .ok (.iload_n 1, 1) := by decide +kernel
theorem dX9_noMan_1 : decode cX9_noMan 1 = .ok (.i2l, 1) := by decide +kernel
theorem dX9_noMan_2 : decode cX9_noMan 2 = .ok (.lconst 0, 1) := by decide +kernel
theorem dX9_noMan_3 : decode cX9_noMan 3 = .ok (.aload_n 0, 1) := by decide +kernel
theorem dX9_noMan_4 : decode cX9_noMan 4 = .ok (.getfield 69, 3) := by decide +kernel
theorem dX9_noMan_7 : decode cX9_noMan 7 = .ok (.iconst 1, 1) := by decide +kernel
theorem dX9_noMan_8 : decode cX9_noMan 8 = .ok (.isub, 1) := by decide +kernel
theorem dX9_noMan_9 : decode cX9_noMan 9 = .ok (.i2l, 1) := by decide +kernel
theorem dX9_noMan_10 : decode cX9_noMan 10 = .ok (.invokestatic 72, 3) := by decide +kernel
theorem dX9_noMan_13 : decode cX9_noMan 13 = .ok (.ifCond .ne 7, 3) := by decide +kernel
theorem dX9_noMan_16 : decode cX9_noMan 16 = .ok (.iconst 1, 1) := by decide +kernel
theorem dX9_noMan_17 : decode cX9_noMan 17 = .ok (.goto 4, 3) := by decide +kernel
theorem dX9_noMan_20 : decode cX9_noMan 20 = .ok (.iconst 0, 1) := by decide +kernel
theorem dX9_noMan_21 : decode cX9_noMan 21 = .ok (.ireturn, 1) := by decide +kernel
theorem dX9_write_0 : decode cX9_write 0 = .ok (.aload_n 0, 1) := by decide +kernel
theorem dX9_write_1 : decode cX9_write 1 = .ok (.iconst 0, 1) := by decide +kernel
theorem dX9_write_2 : decode cX9_write 2 = .ok (.putfield 65, 3) := by decide +kernel
theorem dX9_write_5 : decode cX9_write 5 = .ok (.iload_n 1, 1) := by decide +kernel
theorem dX9_write_6 : decode cX9_write 6 = .ok (.i2l, 1) := by decide +kernel
theorem dX9_write_7 : decode cX9_write 7 = .ok (.lconst 0, 1) := by decide +kernel
theorem dX9_write_8 : decode cX9_write 8 = .ok (.ldc2_w 76, 3) := by decide +kernel
theorem dX9_write_11 : decode cX9_write 11 = .ok (.invokestatic 72, 3) := by decide +kernel
theorem dX9_write_14 : decode cX9_write 14 = .ok (.ifCond .ne 6, 3) := by decide +kernel
theorem dX9_write_17 : decode cX9_write 17 = .ok (.bipush (-2), 2) := by decide +kernel
theorem dX9_write_19 : decode cX9_write 19 = .ok (.ireturn, 1) := by decide +kernel
theorem dX9_write_20 : decode cX9_write 20 = .ok (.aload_n 0, 1) := by decide +kernel
theorem dX9_write_21 : decode cX9_write 21 = .ok (.getfield 78, 3) := by decide +kernel
theorem dX9_write_24 : decode cX9_write 24 = .ok (.bipush 48, 2) := by decide +kernel
theorem dX9_write_26 : decode cX9_write 26 = .ok (.if_icmp .ne 6, 3) := by decide +kernel
theorem dX9_write_29 : decode cX9_write 29 = .ok (.bipush (-4), 2) := by decide +kernel
theorem dX9_write_31 : decode cX9_write 31 = .ok (.ireturn, 1) := by decide +kernel
theorem dX9_write_32 : decode cX9_write 32 = .ok (.aload_n 0, 1) := by decide +kernel
theorem dX9_write_33 : decode cX9_write 33 = .ok (.getfield 7, 3) := by decide +kernel
theorem dX9_write_36 : decode cX9_write 36 = .ok (.aload_n 0, 1) := by decide +kernel
theorem dX9_write_37 : decode cX9_write 37 = .ok (.getfield 78, 3) := by decide +kernel
theorem dX9_write_40 : decode cX9_write 40 = .ok (.iload_n 1, 1) := by decide +kernel
theorem dX9_write_41 : decode cX9_write 41 = .ok (.iastore, 1) := by decide +kernel
theorem dX9_write_42 : decode cX9_write 42 = .ok (.aload_n 0, 1) := by decide +kernel
theorem dX9_write_43 : decode cX9_write 43 = .ok (.dup, 1) := by decide +kernel
theorem dX9_write_44 : decode cX9_write 44 = .ok (.getfield 78, 3) := by decide +kernel
theorem dX9_write_47 : decode cX9_write 47 = .ok (.iconst 1, 1) := by decide +kernel
theorem dX9_write_48 : decode cX9_write 48 = .ok (.iadd, 1) := by decide +kernel
theorem dX9_write_49 : decode cX9_write 49 = .ok (.putfield 78, 3) := by decide +kernel
theorem dX9_write_52 : decode cX9_write 52 = .ok (.aload_n 0, 1) := by decide +kernel
theorem dX9_write_53 : decode cX9_write 53 = .ok (.getfield 78, 3) := by decide +kernel
theorem dX9_write_56 : decode cX9_write 56 = .ok (.ireturn, 1) := by decide +kernel
theorem dX9_wipe_0 : decode cX9_wipe 0 = .ok (.aload_n 0, 1) := by decide +kernel
theorem dX9_wipe_1 : decode cX9_wipe 1 = .ok (.iconst 0, 1) := by decide +kernel
theorem dX9_wipe_2 : decode cX9_wipe 2 = .ok (.putfield 65, 3) := by decide +kernel
theorem dX9_wipe_5 : decode cX9_wipe 5 = .ok (.aload_n 0, 1) := by decide +kernel
theorem dX9_wipe_6 : decode cX9_wipe 6 = .ok (.getfield 78, 3) := by decide +kernel
theorem dX9_wipe_9 : decode cX9_wipe 9 = .ok (.istore_n 1, 1) := by decide +kernel
theorem dX9_wipe_10 : decode cX9_wipe 10 = .ok (.aload_n 0, 1) := by decide +kernel
theorem dX9_wipe_11 : decode cX9_wipe 11 = .ok (.iconst 0, 1) := by decide +kernel
theorem dX9_wipe_12 : decode cX9_wipe 12 = .ok (.putfield 78, 3) := by decide +kernel
theorem dX9_wipe_15 : decode cX9_wipe 15 = .ok (.iload_n 1, 1) := by decide +kernel
theorem dX9_wipe_16 : decode cX9_wipe 16 = .ok (.ireturn, 1) := by decide +kernel
theorem dX9_figure_0 : decode cX9_figure 0 = .ok (.aload_n 0, 1) := by decide +kernel
theorem dX9_figure_1 : decode cX9_figure 1 = .ok (.getfield 81, 3) := by decide +kernel
theorem dX9_figure_4 : decode cX9_figure 4 = .ok (.aload_n 0, 1) := by decide +kernel
theorem dX9_figure_5 : decode cX9_figure 5 = .ok (.getfield 78, 3) := by decide +kernel
theorem dX9_figure_8 : decode cX9_figure 8 = .ok (.if_icmp .eq 26, 3) := by decide +kernel
theorem dX9_figure_11 : decode cX9_figure 11 = .ok (.aload_n 0, 1) := by decide +kernel
theorem dX9_figure_12 : decode cX9_figure 12 = .ok (.getfield 7, 3) := by decide +kernel
theorem dX9_figure_15 : decode cX9_figure 15 = .ok (.aload_n 0, 1) := by decide +kernel
theorem dX9_figure_16 : decode cX9_figure 16 = .ok (.getfield 81, 3) := by decide +kernel
theorem dX9_figure_19 : decode cX9_figure 19 = .ok (.iaload, 1) := by decide +kernel
theorem dX9_figure_20 : decode cX9_figure 20 = .ok (.bipush 48, 2) := by decide +kernel
theorem dX9_figure_22 : decode cX9_figure 22 = .ok (.isub, 1) := by decide +kernel
theorem dX9_figure_23 : decode cX9_figure 23 = .ok (.i2l, 1) := by decide +kernel
theorem dX9_figure_24 : decode cX9_figure 24 = .ok (.iload_n 1, 1) := by decide +kernel
theorem dX9_figure_25 : decode cX9_figure 25 = .ok (.i2l, 1) := by decide +kernel
theorem dX9_figure_26 : decode cX9_figure 26 = .ok (.iload_n 2, 1) := by decide +kernel
theorem dX9_figure_27 : decode cX9_figure 27 = .ok (.i2l, 1) := by decide +kernel
theorem dX9_figure_28 : decode cX9_figure 28 = .ok (.invokestatic 72, 3) := by decide +kernel
theorem dX9_figure_31 : decode cX9_figure 31 = .ok (.ifCond .ne 6, 3) := by decide +kernel
theorem dX9_figure_34 : decode cX9_figure 34 = .ok (.bipush (-9), 2) := by decide +kernel
theorem dX9_figure_36 : decode cX9_figure 36 = .ok (.ireturn, 1) := by decide +kernel
theorem dX9_figure_37 : decode cX9_figure 37 = .ok (.aload_n 0, 1) := by decide +kernel
theorem dX9_figure_38 : decode cX9_figure 38 = .ok (.dup, 1) := by decide +kernel
theorem dX9_figure_39 : decode cX9_figure 39 = .ok (.getfield 81, 3) := by decide +kernel
theorem dX9_figure_42 : decode cX9_figure 42 = .ok (.iconst 1, 1) := by decide +kernel
theorem dX9_figure_43 : decode cX9_figure 43 = .ok (.iadd, 1) := by decide +kernel
theorem dX9_figure_44 : decode cX9_figure 44 = .ok (.putfield 81, 3) := by decide +kernel
theorem dX9_figure_47 : decode cX9_figure 47 = .ok (.aload_n 0, 1) := by decide +kernel
theorem dX9_figure_48 : decode cX9_figure 48 = .ok (.getfield 7, 3) := by decide +kernel
theorem dX9_figure_51 : decode cX9_figure 51 = .ok (.aload_n 0, 1) := by decide +kernel
theorem dX9_figure_52 : decode cX9_figure 52 = .ok (.getfield 81, 3) := by decide +kernel
theorem dX9_figure_55 : decode cX9_figure 55 = .ok (.iconst 1, 1) := by decide +kernel
theorem dX9_figure_56 : decode cX9_figure 56 = .ok (.isub, 1) := by decide +kernel
theorem dX9_figure_57 : decode cX9_figure 57 = .ok (.iaload, 1) := by decide +kernel
theorem dX9_figure_58 : decode cX9_figure 58 = .ok (.bipush 48, 2) := by decide +kernel
theorem dX9_figure_60 : decode cX9_figure 60 = .ok (.isub, 1) := by decide +kernel
theorem dX9_figure_61 : decode cX9_figure 61 = .ok (.ireturn, 1) := by decide +kernel
theorem dX9_readOneStretch_0 : decode cX9_readOneStretch 0 = .ok (.aload_n 0, 1) := by decide +kernel
theorem dX9_readOneStretch_1 : decode cX9_readOneStretch 1 = .ok (.iconst 1, 1) := by decide +kernel
theorem dX9_readOneStretch_2 : decode cX9_readOneStretch 2 = .ok (.bipush 9, 2) := by decide +kernel
theorem dX9_readOneStretch_4 : decode cX9_readOneStretch 4 = .ok (.invokevirtual 84, 3) := by decide +kernel
theorem dX9_readOneStretch_7 : decode cX9_readOneStretch 7 = .ok (.istore_n 1, 1) := by decide +kernel
theorem dX9_readOneStretch_8 : decode cX9_readOneStretch 8 = .ok (.iload_n 1, 1) := by decide +kernel
theorem dX9_readOneStretch_9 : decode cX9_readOneStretch 9 = .ok (.bipush (-9), 2) := by decide +kernel
theorem dX9_readOneStretch_11 : decode cX9_readOneStretch 11 = .ok (.if_icmp .ne 8, 3) := by decide +kernel
theorem dX9_readOneStretch_14 : decode cX9_readOneStretch 14 = .ok (.bipush (-9), 2) := by decide +kernel
theorem dX9_readOneStretch_16 : decode cX9_readOneStretch 16 = .ok (.goto 9, 3) := by decide +kernel
theorem dX9_readOneStretch_19 : decode cX9_readOneStretch 19 = .ok (.aload_n 0, 1) := by decide +kernel
theorem dX9_readOneStretch_20 : decode cX9_readOneStretch 20 = .ok (.iconst 0, 1) := by decide +kernel
theorem dX9_readOneStretch_21 : decode cX9_readOneStretch 21 = .ok (.iconst 3, 1) := by decide +kernel
theorem dX9_readOneStretch_22 : decode cX9_readOneStretch 22 = .ok (.invokevirtual 84, 3) := by decide +kernel
theorem dX9_readOneStretch_25 : decode cX9_readOneStretch 25 = .ok (.istore_n 2, 1) := by decide +kernel
theorem dX9_readOneStretch_26 : decode cX9_readOneStretch 26 = .ok (.iload_n 2, 1) := by decide +kernel
theorem dX9_readOneStretch_27 : decode cX9_readOneStretch 27 = .ok (.bipush (-9), 2) := by decide +kernel
theorem dX9_readOneStretch_29 : decode cX9_readOneStretch 29 = .ok (.if_icmp .ne 5, 3) := by decide +kernel
theorem dX9_readOneStretch_32 : decode cX9_readOneStretch 32 = .ok (.iconst 0, 1) := by decide +kernel
theorem dX9_readOneStretch_33 : decode cX9_readOneStretch 33 = .ok (.ireturn, 1) := by decide +kernel
theorem dX9_readOneStretch_34 : decode cX9_readOneStretch 34 = .ok (.aload_n 0, 1) := by decide +kernel
theorem dX9_readOneStretch_35 : decode cX9_readOneStretch 35 = .ok (.getfield 25, 3) := by decide +kernel
theorem dX9_readOneStretch_38 : decode cX9_readOneStretch 38 = .ok (.iconst 2, 1) := by decide +kernel
theorem dX9_readOneStretch_39 : decode cX9_readOneStretch 39 = .ok (.aload_n 0, 1) := by decide +kernel
theorem dX9_readOneStretch_40 : decode cX9_readOneStretch 40 = .ok (.getfield 88, 3) := by decide +kernel
theorem dX9_readOneStretch_43 : decode cX9_readOneStretch 43 = .ok (.imul, 1) := by decide +kernel
theorem dX9_readOneStretch_44 : decode cX9_readOneStretch 44 = .ok (.iload_n 1, 1) := by decide +kernel
theorem dX9_readOneStretch_45 : decode cX9_readOneStretch 45 = .ok (.iastore, 1) := by decide +kernel
theorem dX9_readOneStretch_46 : decode cX9_readOneStretch 46 = .ok (.aload_n 0, 1) := by decide +kernel
theorem dX9_readOneStretch_47 : decode cX9_readOneStretch 47 = .ok (.getfield 25, 3) := by decide +kernel
theorem dX9_readOneStretch_50 : decode cX9_readOneStretch 50 = .ok (.iconst 2, 1) := by decide +kernel
theorem dX9_readOneStretch_51 : decode cX9_readOneStretch 51 = .ok (.aload_n 0, 1) := by decide +kernel
theorem dX9_readOneStretch_52 : decode cX9_readOneStretch 52 = .ok (.getfield 88, 3) := by decide +kernel
theorem dX9_readOneStretch_55 : decode cX9_readOneStretch 55 = .ok (.imul, 1) := by decide +kernel
theorem dX9_readOneStretch_56 : decode cX9_readOneStretch 56 = .ok (.iconst 1, 1) := by decide +kernel
theorem dX9_readOneStretch_57 : decode cX9_readOneStretch 57 = .ok (.iadd, 1) := by decide +kernel
theorem dX9_readOneStretch_58 : decode cX9_readOneStretch 58 = .ok (.iload_n 2, 1) := by decide +kernel
theorem dX9_readOneStretch_59 : decode cX9_readOneStretch 59 = .ok (.iastore, 1) := by decide +kernel
theorem dX9_readOneStretch_60 : decode cX9_readOneStretch 60 = .ok (.aload_n 0, 1) := by decide +kernel
theorem dX9_readOneStretch_61 : decode cX9_readOneStretch 61 = .ok (.dup, 1) := by decide +kernel
theorem dX9_readOneStretch_62 : decode cX9_readOneStretch 62 = .ok (.getfield 88, 3) := by decide +kernel
theorem dX9_readOneStretch_65 : decode cX9_readOneStretch 65 = .ok (.iconst 1, 1) := by decide +kernel
theorem dX9_readOneStretch_66 : decode cX9_readOneStretch 66 = .ok (.iadd, 1) := by decide +kernel
theorem dX9_readOneStretch_67 : decode cX9_readOneStretch 67 = .ok (.putfield 88, 3) := by decide +kernel
theorem dX9_readOneStretch_70 : decode cX9_readOneStretch 70 = .ok (.iconst 1, 1) := by decide +kernel
theorem dX9_readOneStretch_71 : decode cX9_readOneStretch 71 = .ok (.ireturn, 1) := by decide +kernel
theorem dX9_readOneMan_0 : decode cX9_readOneMan 0 = .ok (.aload_n 0, 1) := by decide +kernel
theorem dX9_readOneMan_1 : decode cX9_readOneMan 1 = .ok (.iconst 1, 1) := by decide +kernel
theorem dX9_readOneMan_2 : decode cX9_readOneMan 2 = .ok (.bipush 9, 2) := by decide +kernel
theorem dX9_readOneMan_4 : decode cX9_readOneMan 4 = .ok (.invokevirtual 84, 3) := by decide +kernel
theorem dX9_readOneMan_7 : decode cX9_readOneMan 7 = .ok (.istore_n 1, 1) := by decide +kernel
theorem dX9_readOneMan_8 : decode cX9_readOneMan 8 = .ok (.iload_n 1, 1) := by decide +kernel
theorem dX9_readOneMan_9 : decode cX9_readOneMan 9 = .ok (.bipush (-9), 2) := by decide +kernel
theorem dX9_readOneMan_11 : decode cX9_readOneMan 11 = .ok (.if_icmp .ne 8, 3) := by decide +kernel
theorem dX9_readOneMan_14 : decode cX9_readOneMan 14 = .ok (.bipush (-9), 2) := by decide +kernel
theorem dX9_readOneMan_16 : decode cX9_readOneMan 16 = .ok (.goto 9, 3) := by decide +kernel
theorem dX9_readOneMan_19 : decode cX9_readOneMan 19 = .ok (.aload_n 0, 1) := by decide +kernel
theorem dX9_readOneMan_20 : decode cX9_readOneMan 20 = .ok (.iconst 0, 1) := by decide +kernel
theorem dX9_readOneMan_21 : decode cX9_readOneMan 21 = .ok (.iconst 3, 1) := by decide +kernel
theorem dX9_readOneMan_22 : decode cX9_readOneMan 22 = .ok (.invokevirtual 84, 3) := by decide +kernel
theorem dX9_readOneMan_25 : decode cX9_readOneMan 25 = .ok (.istore_n 2, 1) := by decide +kernel
theorem dX9_readOneMan_26 : decode cX9_readOneMan 26 = .ok (.iload_n 2, 1) := by decide +kernel
theorem dX9_readOneMan_27 : decode cX9_readOneMan 27 = .ok (.bipush (-9), 2) := by decide +kernel
theorem dX9_readOneMan_29 : decode cX9_readOneMan 29 = .ok (.if_icmp .ne 8, 3) := by decide +kernel
theorem dX9_readOneMan_32 : decode cX9_readOneMan 32 = .ok (.bipush (-9), 2) := by decide +kernel
theorem dX9_readOneMan_34 : decode cX9_readOneMan 34 = .ok (.goto 10, 3) := by decide +kernel
theorem dX9_readOneMan_37 : decode cX9_readOneMan 37 = .ok (.aload_n 0, 1) := by decide +kernel
theorem dX9_readOneMan_38 : decode cX9_readOneMan 38 = .ok (.iconst 0, 1) := by decide +kernel
theorem dX9_readOneMan_39 : decode cX9_readOneMan 39 = .ok (.bipush 9, 2) := by decide +kernel
theorem dX9_readOneMan_41 : decode cX9_readOneMan 41 = .ok (.invokevirtual 84, 3) := by decide +kernel
theorem dX9_readOneMan_44 : decode cX9_readOneMan 44 = .ok (.istore_n 3, 1) := by decide +kernel
theorem dX9_readOneMan_45 : decode cX9_readOneMan 45 = .ok (.iload_n 3, 1) := by decide +kernel
theorem dX9_readOneMan_46 : decode cX9_readOneMan 46 = .ok (.bipush (-9), 2) := by decide +kernel
theorem dX9_readOneMan_48 : decode cX9_readOneMan 48 = .ok (.if_icmp .ne 5, 3) := by decide +kernel
theorem dX9_readOneMan_51 : decode cX9_readOneMan 51 = .ok (.iconst 0, 1) := by decide +kernel
theorem dX9_readOneMan_52 : decode cX9_readOneMan 52 = .ok (.ireturn, 1) := by decide +kernel
theorem dX9_readOneMan_53 : decode cX9_readOneMan 53 = .ok (.aload_n 0, 1) := by decide +kernel
theorem dX9_readOneMan_54 : decode cX9_readOneMan 54 = .ok (.getfield 28, 3) := by decide +kernel
theorem dX9_readOneMan_57 : decode cX9_readOneMan 57 = .ok (.iconst 3, 1) := by decide +kernel
theorem dX9_readOneMan_58 : decode cX9_readOneMan 58 = .ok (.aload_n 0, 1) := by decide +kernel
theorem dX9_readOneMan_59 : decode cX9_readOneMan 59 = .ok (.getfield 91, 3) := by decide +kernel
theorem dX9_readOneMan_62 : decode cX9_readOneMan 62 = .ok (.imul, 1) := by decide +kernel
theorem dX9_readOneMan_63 : decode cX9_readOneMan 63 = .ok (.iload_n 1, 1) := by decide +kernel
theorem dX9_readOneMan_64 : decode cX9_readOneMan 64 = .ok (.iastore, 1) := by decide +kernel
theorem dX9_readOneMan_65 : decode cX9_readOneMan 65 = .ok (.aload_n 0, 1) := by decide +kernel
theorem dX9_readOneMan_66 : decode cX9_readOneMan 66 = .ok (.getfield 28, 3) := by decide +kernel
theorem dX9_readOneMan_69 : decode cX9_readOneMan 69 = .ok (.iconst 3, 1) := by decide +kernel
theorem dX9_readOneMan_70 : decode cX9_readOneMan 70 = .ok (.aload_n 0, 1) := by decide +kernel
theorem dX9_readOneMan_71 : decode cX9_readOneMan 71 = .ok (.getfield 91, 3) := by decide +kernel
theorem dX9_readOneMan_74 : decode cX9_readOneMan 74 = .ok (.imul, 1) := by decide +kernel
theorem dX9_readOneMan_75 : decode cX9_readOneMan 75 = .ok (.iconst 1, 1) := by decide +kernel
theorem dX9_readOneMan_76 : decode cX9_readOneMan 76 = .ok (.iadd, 1) := by decide +kernel
theorem dX9_readOneMan_77 : decode cX9_readOneMan 77 = .ok (.iload_n 2, 1) := by decide +kernel
theorem dX9_readOneMan_78 : decode cX9_readOneMan 78 = .ok (.iastore, 1) := by decide +kernel
theorem dX9_readOneMan_79 : decode cX9_readOneMan 79 = .ok (.aload_n 0, 1) := by decide +kernel
theorem dX9_readOneMan_80 : decode cX9_readOneMan 80 = .ok (.getfield 28, 3) := by decide +kernel
theorem dX9_readOneMan_83 : decode cX9_readOneMan 83 = .ok (.iconst 3, 1) := by decide +kernel
theorem dX9_readOneMan_84 : decode cX9_readOneMan 84 = .ok (.aload_n 0, 1) := by decide +kernel
theorem dX9_readOneMan_85 : decode cX9_readOneMan 85 = .ok (.getfield 91, 3) := by decide +kernel
theorem dX9_readOneMan_88 : decode cX9_readOneMan 88 = .ok (.imul, 1) := by decide +kernel
theorem dX9_readOneMan_89 : decode cX9_readOneMan 89 = .ok (.iconst 2, 1) := by decide +kernel
theorem dX9_readOneMan_90 : decode cX9_readOneMan 90 = .ok (.iadd, 1) := by decide +kernel
theorem dX9_readOneMan_91 : decode cX9_readOneMan 91 = .ok (.iload_n 3, 1) := by decide +kernel
theorem dX9_readOneMan_92 : decode cX9_readOneMan 92 = .ok (.iastore, 1) := by decide +kernel
theorem dX9_readOneMan_93 : decode cX9_readOneMan 93 = .ok (.aload_n 0, 1) := by decide +kernel
theorem dX9_readOneMan_94 : decode cX9_readOneMan 94 = .ok (.dup, 1) := by decide +kernel
theorem dX9_readOneMan_95 : decode cX9_readOneMan 95 = .ok (.getfield 91, 3) := by decide +kernel
theorem dX9_readOneMan_98 : decode cX9_readOneMan 98 = .ok (.iconst 1, 1) := by decide +kernel
theorem dX9_readOneMan_99 : decode cX9_readOneMan 99 = .ok (.iadd, 1) := by decide +kernel
theorem dX9_readOneMan_100 : decode cX9_readOneMan 100 = .ok (.putfield 91, 3) := by decide +kernel
theorem dX9_readOneMan_103 : decode cX9_readOneMan 103 = .ok (.iconst 1, 1) := by decide +kernel
theorem dX9_readOneMan_104 : decode cX9_readOneMan 104 = .ok (.ireturn, 1) := by decide +kernel
theorem dX9_readThing_0 : decode cX9_readThing 0 = .ok (.aload_n 0, 1) := by decide +kernel
theorem dX9_readThing_1 : decode cX9_readThing 1 = .ok (.getfield 7, 3) := by decide +kernel
theorem dX9_readThing_4 : decode cX9_readThing 4 = .ok (.aload_n 0, 1) := by decide +kernel
theorem dX9_readThing_5 : decode cX9_readThing 5 = .ok (.getfield 81, 3) := by decide +kernel
theorem dX9_readThing_8 : decode cX9_readThing 8 = .ok (.iaload, 1) := by decide +kernel
theorem dX9_readThing_9 : decode cX9_readThing 9 = .ok (.istore_n 1, 1) := by decide +kernel
theorem dX9_readThing_10 : decode cX9_readThing 10 = .ok (.aload_n 0, 1) := by decide +kernel
theorem dX9_readThing_11 : decode cX9_readThing 11 = .ok (.dup, 1) := by decide +kernel
theorem dX9_readThing_12 : decode cX9_readThing 12 = .ok (.getfield 81, 3) := by decide +kernel
theorem dX9_readThing_15 : decode cX9_readThing 15 = .ok (.iconst 1, 1) := by decide +kernel
theorem dX9_readThing_16 : decode cX9_readThing 16 = .ok (.iadd, 1) := by decide +kernel
theorem dX9_readThing_17 : decode cX9_readThing 17 = .ok (.putfield 81, 3) := by decide +kernel
theorem dX9_readThing_20 : decode cX9_readThing 20 = .ok (.iload_n 1, 1) := by decide +kernel
theorem dX9_readThing_21 : decode cX9_readThing 21 = .ok (.bipush 83, 2) := by decide +kernel
theorem dX9_readThing_23 : decode cX9_readThing 23 = .ok (.if_icmp .ne 17, 3) := by decide +kernel
theorem dX9_readThing_26 : decode cX9_readThing 26 = .ok (.aload_n 0, 1) := by decide +kernel
theorem dX9_readThing_27 : decode cX9_readThing 27 = .ok (.getfield 88, 3) := by decide +kernel
theorem dX9_readThing_30 : decode cX9_readThing 30 = .ok (.bipush 8, 2) := by decide +kernel
theorem dX9_readThing_32 : decode cX9_readThing 32 = .ok (.if_icmp .ge 8, 3) := by decide +kernel
theorem dX9_readThing_35 : decode cX9_readThing 35 = .ok (.aload_n 0, 1) := by decide +kernel
theorem dX9_readThing_36 : decode cX9_readThing 36 = .ok (.invokevirtual 94, 3) := by decide +kernel
theorem dX9_readThing_39 : decode cX9_readThing 39 = .ok (.ireturn, 1) := by decide +kernel
theorem dX9_readThing_40 : decode cX9_readThing 40 = .ok (.iload_n 1, 1) := by decide +kernel
theorem dX9_readThing_41 : decode cX9_readThing 41 = .ok (.bipush 77, 2) := by decide +kernel
theorem dX9_readThing_43 : decode cX9_readThing 43 = .ok (.if_icmp .ne 16, 3) := by decide +kernel
theorem dX9_readThing_46 : decode cX9_readThing 46 = .ok (.aload_n 0, 1) := by decide +kernel
theorem dX9_readThing_47 : decode cX9_readThing 47 = .ok (.getfield 91, 3) := by decide +kernel
theorem dX9_readThing_50 : decode cX9_readThing 50 = .ok (.iconst 5, 1) := by decide +kernel
theorem dX9_readThing_51 : decode cX9_readThing 51 = .ok (.if_icmp .ge 8, 3) := by decide +kernel
theorem dX9_readThing_54 : decode cX9_readThing 54 = .ok (.aload_n 0, 1) := by decide +kernel
theorem dX9_readThing_55 : decode cX9_readThing 55 = .ok (.invokevirtual 98, 3) := by decide +kernel
theorem dX9_readThing_58 : decode cX9_readThing 58 = .ok (.ireturn, 1) := by decide +kernel
theorem dX9_readThing_59 : decode cX9_readThing 59 = .ok (.aload_n 0, 1) := by decide +kernel
theorem dX9_readThing_60 : decode cX9_readThing 60 = .ok (.dup, 1) := by decide +kernel
theorem dX9_readThing_61 : decode cX9_readThing 61 = .ok (.getfield 81, 3) := by decide +kernel
theorem dX9_readThing_64 : decode cX9_readThing 64 = .ok (.iconst 1, 1) := by decide +kernel
theorem dX9_readThing_65 : decode cX9_readThing 65 = .ok (.isub, 1) := by decide +kernel
theorem dX9_readThing_66 : decode cX9_readThing 66 = .ok (.putfield 81, 3) := by decide +kernel
theorem dX9_readThing_69 : decode cX9_readThing 69 = .ok (.iconst 0, 1) := by decide +kernel
theorem dX9_readThing_70 : decode cX9_readThing 70 = .ok (.ireturn, 1) := by decide +kernel
theorem dX9_readArmy_0 : decode cX9_readArmy 0 = .ok (.aload_n 0, 1) := by decide +kernel
theorem dX9_readArmy_1 : decode cX9_readArmy 1 = .ok (.iconst 0, 1) := by decide +kernel
theorem dX9_readArmy_2 : decode cX9_readArmy 2 = .ok (.putfield 81, 3) := by decide +kernel
theorem dX9_readArmy_5 : decode cX9_readArmy 5 = .ok (.aload_n 0, 1) := by decide +kernel
theorem dX9_readArmy_6 : decode cX9_readArmy 6 = .ok (.iconst 0, 1) := by decide +kernel
theorem dX9_readArmy_7 : decode cX9_readArmy 7 = .ok (.putfield 88, 3) := by decide +kernel
theorem dX9_readArmy_10 : decode cX9_readArmy 10 = .ok (.aload_n 0, 1) := by decide +kernel
theorem dX9_readArmy_11 : decode cX9_readArmy 11 = .ok (.iconst 0, 1) := by decide +kernel
theorem dX9_readArmy_12 : decode cX9_readArmy 12 = .ok (.putfield 91, 3) := by decide +kernel
theorem dX9_readArmy_15 : decode cX9_readArmy 15 = .ok (.aload_n 0, 1) := by decide +kernel
theorem dX9_readArmy_16 : decode cX9_readArmy 16 = .ok (.getfield 78, 3) := by decide +kernel
theorem dX9_readArmy_19 : decode cX9_readArmy 19 = .ok (.ifCond .eq 14, 3) := by decide +kernel
theorem dX9_readArmy_22 : decode cX9_readArmy 22 = .ok (.aload_n 0, 1) := by decide +kernel
theorem dX9_readArmy_23 : decode cX9_readArmy 23 = .ok (.getfield 7, 3) := by decide +kernel
theorem dX9_readArmy_26 : decode cX9_readArmy 26 = .ok (.iconst 0, 1) := by decide +kernel
theorem dX9_readArmy_27 : decode cX9_readArmy 27 = .ok (.iaload, 1) := by decide +kernel
theorem dX9_readArmy_28 : decode cX9_readArmy 28 = .ok (.bipush 65, 2) := by decide +kernel
theorem dX9_readArmy_30 : decode cX9_readArmy 30 = .ok (.if_icmp .eq 5, 3) := by decide +kernel
theorem dX9_readArmy_33 : decode cX9_readArmy 33 = .ok (.iconst 0, 1) := by decide +kernel
theorem dX9_readArmy_34 : decode cX9_readArmy 34 = .ok (.ireturn, 1) := by decide +kernel
theorem dX9_readArmy_35 : decode cX9_readArmy 35 = .ok (.aload_n 0, 1) := by decide +kernel
theorem dX9_readArmy_36 : decode cX9_readArmy 36 = .ok (.iconst 1, 1) := by decide +kernel
theorem dX9_readArmy_37 : decode cX9_readArmy 37 = .ok (.putfield 81, 3) := by decide +kernel
theorem dX9_readArmy_40 : decode cX9_readArmy 40 = .ok (.aload_n 0, 1) := by decide +kernel
theorem dX9_readArmy_41 : decode cX9_readArmy 41 = .ok (.getfield 81, 3) := by decide +kernel
theorem dX9_readArmy_44 : decode cX9_readArmy 44 = .ok (.aload_n 0, 1) := by decide +kernel
theorem dX9_readArmy_45 : decode cX9_readArmy 45 = .ok (.getfield 78, 3) := by decide +kernel
theorem dX9_readArmy_48 : decode cX9_readArmy 48 = .ok (.if_icmp .ge 15, 3) := by decide +kernel
theorem dX9_readArmy_51 : decode cX9_readArmy 51 = .ok (.aload_n 0, 1) := by decide +kernel
theorem dX9_readArmy_52 : decode cX9_readArmy 52 = .ok (.invokevirtual 101, 3) := by decide +kernel
theorem dX9_readArmy_55 : decode cX9_readArmy 55 = .ok (.ifCond .ne (-15), 3) := by decide +kernel
theorem dX9_readArmy_58 : decode cX9_readArmy 58 = .ok (.aload_n 0, 1) := by decide +kernel
theorem dX9_readArmy_59 : decode cX9_readArmy 59 = .ok (.getfield 81, 3) := by decide +kernel
theorem dX9_readArmy_62 : decode cX9_readArmy 62 = .ok (.ireturn, 1) := by decide +kernel
theorem dX9_readArmy_63 : decode cX9_readArmy 63 = .ok (.bipush (-9), 2) := by decide +kernel
theorem dX9_readArmy_65 : decode cX9_readArmy 65 = .ok (.ireturn, 1) := by decide +kernel
theorem dX9_fault_0 : decode cX9_fault 0 = .ok (.aload_n 0, 1) := by decide +kernel
theorem dX9_fault_1 : decode cX9_fault 1 = .ok (.iconst 0, 1) := by decide +kernel
theorem dX9_fault_2 : decode cX9_fault 2 = .ok (.putfield 65, 3) := by decide +kernel
theorem dX9_fault_5 : decode cX9_fault 5 = .ok (.aload_n 0, 1) := by decide +kernel
theorem dX9_fault_6 : decode cX9_fault 6 = .ok (.invokevirtual 104, 3) := by decide +kernel
theorem dX9_fault_9 : decode cX9_fault 9 = .ok (.ireturn, 1) := by decide +kernel
theorem dX9_army_0 : decode cX9_army 0 = .ok (.aload_n 0, 1) := by decide +kernel
theorem dX9_army_1 : decode cX9_army 1 = .ok (.iconst 0, 1) := by decide +kernel
theorem dX9_army_2 : decode cX9_army 2 = .ok (.putfield 65, 3) := by decide +kernel
theorem dX9_army_5 : decode cX9_army 5 = .ok (.aload_n 0, 1) := by decide +kernel
theorem dX9_army_6 : decode cX9_army 6 = .ok (.invokevirtual 104, 3) := by decide +kernel
theorem dX9_army_9 : decode cX9_army 9 = .ok (.bipush (-9), 2) := by decide +kernel
theorem dX9_army_11 : decode cX9_army 11 = .ok (.if_icmp .eq 6, 3) := by decide +kernel
theorem dX9_army_14 : decode cX9_army 14 = .ok (.bipush (-3), 2) := by decide +kernel
theorem dX9_army_16 : decode cX9_army 16 = .ok (.ireturn, 1) := by decide +kernel
theorem dX9_army_17 : decode cX9_army 17 = .ok (.aload_n 0, 1) := by decide +kernel
theorem dX9_army_18 : decode cX9_army 18 = .ok (.aload_n 0, 1) := by decide +kernel
theorem dX9_army_19 : decode cX9_army 19 = .ok (.getfield 88, 3) := by decide +kernel
theorem dX9_army_22 : decode cX9_army 22 = .ok (.putfield 108, 3) := by decide +kernel
theorem dX9_army_25 : decode cX9_army 25 = .ok (.aload_n 0, 1) := by decide +kernel
theorem dX9_army_26 : decode cX9_army 26 = .ok (.aload_n 0, 1) := by decide +kernel
theorem dX9_army_27 : decode cX9_army 27 = .ok (.getfield 91, 3) := by decide +kernel
theorem dX9_army_30 : decode cX9_army 30 = .ok (.putfield 69, 3) := by decide +kernel
theorem dX9_army_33 : decode cX9_army 33 = .ok (.aload_n 0, 1) := by decide +kernel
theorem dX9_army_34 : decode cX9_army 34 = .ok (.iconst 0, 1) := by decide +kernel
theorem dX9_army_35 : decode cX9_army 35 = .ok (.putfield 111, 3) := by decide +kernel
theorem dX9_army_38 : decode cX9_army 38 = .ok (.iconst 0, 1) := by decide +kernel
theorem dX9_army_39 : decode cX9_army 39 = .ok (.istore_n 1, 1) := by decide +kernel
theorem dX9_army_40 : decode cX9_army 40 = .ok (.iload_n 1, 1) := by decide +kernel
theorem dX9_army_41 : decode cX9_army 41 = .ok (.bipush 7, 2) := by decide +kernel
theorem dX9_army_43 : decode cX9_army 43 = .ok (.if_icmp .ge 16, 3) := by decide +kernel
theorem dX9_army_46 : decode cX9_army 46 = .ok (.aload_n 0, 1) := by decide +kernel
theorem dX9_army_47 : decode cX9_army 47 = .ok (.getfield 31, 3) := by decide +kernel
theorem dX9_army_50 : decode cX9_army 50 = .ok (.iload_n 1, 1) := by decide +kernel
theorem dX9_army_51 : decode cX9_army 51 = .ok (.iconst 0, 1) := by decide +kernel
theorem dX9_army_52 : decode cX9_army 52 = .ok (.iastore, 1) := by decide +kernel
theorem dX9_army_53 : decode cX9_army 53 = .ok (.iinc 1 1, 3) := by decide +kernel
theorem dX9_army_56 : decode cX9_army 56 = .ok (.goto (-16), 3) := by decide +kernel
theorem dX9_army_59 : decode cX9_army 59 = .ok (.iconst 0, 1) := by decide +kernel
theorem dX9_army_60 : decode cX9_army 60 = .ok (.istore_n 1, 1) := by decide +kernel
theorem dX9_army_61 : decode cX9_army 61 = .ok (.iload_n 1, 1) := by decide +kernel
theorem dX9_army_62 : decode cX9_army 62 = .ok (.aload_n 0, 1) := by decide +kernel
theorem dX9_army_63 : decode cX9_army 63 = .ok (.getfield 108, 3) := by decide +kernel
theorem dX9_army_66 : decode cX9_army 66 = .ok (.if_icmp .ge 54, 3) := by decide +kernel
theorem dX9_army_69 : decode cX9_army 69 = .ok (.aload_n 0, 1) := by decide +kernel
theorem dX9_army_70 : decode cX9_army 70 = .ok (.getfield 13, 3) := by decide +kernel
theorem dX9_army_73 : decode cX9_army 73 = .ok (.iload_n 1, 1) := by decide +kernel
theorem dX9_army_74 : decode cX9_army 74 = .ok (.aload_n 0, 1) := by decide +kernel
theorem dX9_army_75 : decode cX9_army 75 = .ok (.getfield 25, 3) := by decide +kernel
theorem dX9_army_78 : decode cX9_army 78 = .ok (.iconst 2, 1) := by decide +kernel
theorem dX9_army_79 : decode cX9_army 79 = .ok (.iload_n 1, 1) := by decide +kernel
theorem dX9_army_80 : decode cX9_army 80 = .ok (.imul, 1) := by decide +kernel
theorem dX9_army_81 : decode cX9_army 81 = .ok (.iaload, 1) := by decide +kernel
theorem dX9_army_82 : decode cX9_army 82 = .ok (.iastore, 1) := by decide +kernel
theorem dX9_army_83 : decode cX9_army 83 = .ok (.aload_n 0, 1) := by decide +kernel
theorem dX9_army_84 : decode cX9_army 84 = .ok (.getfield 16, 3) := by decide +kernel
theorem dX9_army_87 : decode cX9_army 87 = .ok (.iload_n 1, 1) := by decide +kernel
theorem dX9_army_88 : decode cX9_army 88 = .ok (.aload_n 0, 1) := by decide +kernel
theorem dX9_army_89 : decode cX9_army 89 = .ok (.getfield 25, 3) := by decide +kernel
theorem dX9_army_92 : decode cX9_army 92 = .ok (.iconst 2, 1) := by decide +kernel
theorem dX9_army_93 : decode cX9_army 93 = .ok (.iload_n 1, 1) := by decide +kernel
theorem dX9_army_94 : decode cX9_army 94 = .ok (.imul, 1) := by decide +kernel
theorem dX9_army_95 : decode cX9_army 95 = .ok (.iconst 1, 1) := by decide +kernel
theorem dX9_army_96 : decode cX9_army 96 = .ok (.iadd, 1) := by decide +kernel
theorem dX9_army_97 : decode cX9_army 97 = .ok (.iaload, 1) := by decide +kernel
theorem dX9_army_98 : decode cX9_army 98 = .ok (.iastore, 1) := by decide +kernel
theorem dX9_army_99 : decode cX9_army 99 = .ok (.aload_n 0, 1) := by decide +kernel
theorem dX9_army_100 : decode cX9_army 100 = .ok (.dup, 1) := by decide +kernel
theorem dX9_army_101 : decode cX9_army 101 = .ok (.getfield 111, 3) := by decide +kernel
theorem dX9_army_104 : decode cX9_army 104 = .ok (.aload_n 0, 1) := by decide +kernel
theorem dX9_army_105 : decode cX9_army 105 = .ok (.getfield 13, 3) := by decide +kernel
theorem dX9_army_108 : decode cX9_army 108 = .ok (.iload_n 1, 1) := by decide +kernel
theorem dX9_army_109 : decode cX9_army 109 = .ok (.iaload, 1) := by decide +kernel
theorem dX9_army_110 : decode cX9_army 110 = .ok (.iadd, 1) := by decide +kernel
theorem dX9_army_111 : decode cX9_army 111 = .ok (.putfield 111, 3) := by decide +kernel
theorem dX9_army_114 : decode cX9_army 114 = .ok (.iinc 1 1, 3) := by decide +kernel
theorem dX9_army_117 : decode cX9_army 117 = .ok (.goto (-56), 3) := by decide +kernel
theorem dX9_army_120 : decode cX9_army 120 = .ok (.iconst 0, 1) := by decide +kernel
theorem dX9_army_121 : decode cX9_army 121 = .ok (.istore_n 1, 1) := by decide +kernel
theorem dX9_army_122 : decode cX9_army 122 = .ok (.iload_n 1, 1) := by decide +kernel
theorem dX9_army_123 : decode cX9_army 123 = .ok (.aload_n 0, 1) := by decide +kernel
theorem dX9_army_124 : decode cX9_army 124 = .ok (.getfield 69, 3) := by decide +kernel
theorem dX9_army_127 : decode cX9_army 127 = .ok (.if_icmp .ge 57, 3) := by decide +kernel
theorem dX9_army_130 : decode cX9_army 130 = .ok (.aload_n 0, 1) := by decide +kernel
theorem dX9_army_131 : decode cX9_army 131 = .ok (.getfield 19, 3) := by decide +kernel
theorem dX9_army_134 : decode cX9_army 134 = .ok (.iload_n 1, 1) := by decide +kernel
theorem dX9_army_135 : decode cX9_army 135 = .ok (.aload_n 0, 1) := by decide +kernel
theorem dX9_army_136 : decode cX9_army 136 = .ok (.getfield 28, 3) := by decide +kernel
theorem dX9_army_139 : decode cX9_army 139 = .ok (.iconst 3, 1) := by decide +kernel
theorem dX9_army_140 : decode cX9_army 140 = .ok (.iload_n 1, 1) := by decide +kernel
theorem dX9_army_141 : decode cX9_army 141 = .ok (.imul, 1) := by decide +kernel
theorem dX9_army_142 : decode cX9_army 142 = .ok (.iaload, 1) := by decide +kernel
theorem dX9_army_143 : decode cX9_army 143 = .ok (.iastore, 1) := by decide +kernel
theorem dX9_army_144 : decode cX9_army 144 = .ok (.aload_n 0, 1) := by decide +kernel
theorem dX9_army_145 : decode cX9_army 145 = .ok (.getfield 22, 3) := by decide +kernel
theorem dX9_army_148 : decode cX9_army 148 = .ok (.iload_n 1, 1) := by decide +kernel
theorem dX9_army_149 : decode cX9_army 149 = .ok (.aload_n 0, 1) := by decide +kernel
theorem dX9_army_150 : decode cX9_army 150 = .ok (.getfield 28, 3) := by decide +kernel
theorem dX9_army_153 : decode cX9_army 153 = .ok (.iconst 3, 1) := by decide +kernel
theorem dX9_army_154 : decode cX9_army 154 = .ok (.iload_n 1, 1) := by decide +kernel
theorem dX9_army_155 : decode cX9_army 155 = .ok (.imul, 1) := by decide +kernel
theorem dX9_army_156 : decode cX9_army 156 = .ok (.iconst 1, 1) := by decide +kernel
theorem dX9_army_157 : decode cX9_army 157 = .ok (.iadd, 1) := by decide +kernel
theorem dX9_army_158 : decode cX9_army 158 = .ok (.iaload, 1) := by decide +kernel
theorem dX9_army_159 : decode cX9_army 159 = .ok (.iastore, 1) := by decide +kernel
theorem dX9_army_160 : decode cX9_army 160 = .ok (.aload_n 0, 1) := by decide +kernel
theorem dX9_army_161 : decode cX9_army 161 = .ok (.getfield 31, 3) := by decide +kernel
theorem dX9_army_164 : decode cX9_army 164 = .ok (.iconst 2, 1) := by decide +kernel
theorem dX9_army_165 : decode cX9_army 165 = .ok (.iload_n 1, 1) := by decide +kernel
theorem dX9_army_166 : decode cX9_army 166 = .ok (.iadd, 1) := by decide +kernel
theorem dX9_army_167 : decode cX9_army 167 = .ok (.aload_n 0, 1) := by decide +kernel
theorem dX9_army_168 : decode cX9_army 168 = .ok (.getfield 28, 3) := by decide +kernel
theorem dX9_army_171 : decode cX9_army 171 = .ok (.iconst 3, 1) := by decide +kernel
theorem dX9_army_172 : decode cX9_army 172 = .ok (.iload_n 1, 1) := by decide +kernel
theorem dX9_army_173 : decode cX9_army 173 = .ok (.imul, 1) := by decide +kernel
theorem dX9_army_174 : decode cX9_army 174 = .ok (.iconst 2, 1) := by decide +kernel
theorem dX9_army_175 : decode cX9_army 175 = .ok (.iadd, 1) := by decide +kernel
theorem dX9_army_176 : decode cX9_army 176 = .ok (.iaload, 1) := by decide +kernel
theorem dX9_army_177 : decode cX9_army 177 = .ok (.iastore, 1) := by decide +kernel
theorem dX9_army_178 : decode cX9_army 178 = .ok (.iinc 1 1, 3) := by decide +kernel
theorem dX9_army_181 : decode cX9_army 181 = .ok (.goto (-59), 3) := by decide +kernel
theorem dX9_army_184 : decode cX9_army 184 = .ok (.aload_n 0, 1) := by decide +kernel
theorem dX9_army_185 : decode cX9_army 185 = .ok (.iconst 0, 1) := by decide +kernel
theorem dX9_army_186 : decode cX9_army 186 = .ok (.putfield 114, 3) := by decide +kernel
theorem dX9_army_189 : decode cX9_army 189 = .ok (.aload_n 0, 1) := by decide +kernel
theorem dX9_army_190 : decode cX9_army 190 = .ok (.getfield 46, 3) := by decide +kernel
theorem dX9_army_193 : decode cX9_army 193 = .ok (.iconst 0, 1) := by decide +kernel
theorem dX9_army_194 : decode cX9_army 194 = .ok (.iconst 0, 1) := by decide +kernel
theorem dX9_army_195 : decode cX9_army 195 = .ok (.bastore, 1) := by decide +kernel
theorem dX9_army_196 : decode cX9_army 196 = .ok (.aload_n 0, 1) := by decide +kernel
theorem dX9_army_197 : decode cX9_army 197 = .ok (.getfield 46, 3) := by decide +kernel
theorem dX9_army_200 : decode cX9_army 200 = .ok (.iconst 1, 1) := by decide +kernel
theorem dX9_army_201 : decode cX9_army 201 = .ok (.iconst 0, 1) := by decide +kernel
theorem dX9_army_202 : decode cX9_army 202 = .ok (.bastore, 1) := by decide +kernel
theorem dX9_army_203 : decode cX9_army 203 = .ok (.bipush 10, 2) := by decide +kernel
theorem dX9_army_205 : decode cX9_army 205 = .ok (.aload_n 0, 1) := by decide +kernel
theorem dX9_army_206 : decode cX9_army 206 = .ok (.getfield 108, 3) := by decide +kernel
theorem dX9_army_209 : decode cX9_army 209 = .ok (.imul, 1) := by decide +kernel
theorem dX9_army_210 : decode cX9_army 210 = .ok (.aload_n 0, 1) := by decide +kernel
theorem dX9_army_211 : decode cX9_army 211 = .ok (.getfield 69, 3) := by decide +kernel
theorem dX9_army_214 : decode cX9_army 214 = .ok (.iadd, 1) := by decide +kernel
theorem dX9_army_215 : decode cX9_army 215 = .ok (.ireturn, 1) := by decide +kernel
theorem dX9_speedBy_0 : decode cX9_speedBy 0 = .ok (.iload_n 0, 1) := by decide +kernel
theorem dX9_speedBy_1 : decode cX9_speedBy 1 = .ok (.iload_n 2, 1) := by decide +kernel
theorem dX9_speedBy_2 : decode cX9_speedBy 2 = .ok (.iload_n 1, 1) := by decide +kernel
theorem dX9_speedBy_3 : decode cX9_speedBy 3 = .ok (.iconst 1, 1) := by decide +kernel
theorem dX9_speedBy_4 : decode cX9_speedBy 4 = .ok (.if_icmp .ne 7, 3) := by decide +kernel
theorem dX9_speedBy_7 : decode cX9_speedBy 7 = .ok (.iconst 1, 1) := by decide +kernel
theorem dX9_speedBy_8 : decode cX9_speedBy 8 = .ok (.goto 13, 3) := by decide +kernel
theorem dX9_speedBy_11 : decode cX9_speedBy 11 = .ok (.iload_n 1, 1) := by decide +kernel
theorem dX9_speedBy_12 : decode cX9_speedBy 12 = .ok (.iconst 2, 1) := by decide +kernel
theorem dX9_speedBy_13 : decode cX9_speedBy 13 = .ok (.if_icmp .ne 7, 3) := by decide +kernel
theorem dX9_speedBy_16 : decode cX9_speedBy 16 = .ok (.iconst 3, 1) := by decide +kernel
theorem dX9_speedBy_17 : decode cX9_speedBy 17 = .ok (.goto 4, 3) := by decide +kernel
theorem dX9_speedBy_20 : decode cX9_speedBy 20 = .ok (.iconst 2, 1) := by decide +kernel
theorem dX9_speedBy_21 : decode cX9_speedBy 21 = .ok (.imul, 1) := by decide +kernel
theorem dX9_speedBy_22 : decode cX9_speedBy 22 = .ok (.isub, 1) := by decide +kernel
theorem dX9_speedBy_23 : decode cX9_speedBy 23 = .ok (.istore_n 3, 1) := by decide +kernel
theorem dX9_speedBy_24 : decode cX9_speedBy 24 = .ok (.iload_n 3, 1) := by decide +kernel
theorem dX9_speedBy_25 : decode cX9_speedBy 25 = .ok (.iconst 1, 1) := by decide +kernel
theorem dX9_speedBy_26 : decode cX9_speedBy 26 = .ok (.if_icmp .ge 7, 3) := by decide +kernel
theorem dX9_speedBy_29 : decode cX9_speedBy 29 = .ok (.iconst 1, 1) := by decide +kernel
theorem dX9_speedBy_30 : decode cX9_speedBy 30 = .ok (.goto 4, 3) := by decide +kernel
theorem dX9_speedBy_33 : decode cX9_speedBy 33 = .ok (.iload_n 3, 1) := by decide +kernel
theorem dX9_speedBy_34 : decode cX9_speedBy 34 = .ok (.ireturn, 1) := by decide +kernel
