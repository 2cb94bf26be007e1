theorem dX0_init_0 : decode cX0_init 0 = .ok (.aload_n 0, 1) := by decide +kernel
theorem dX0_init_1 : decode cX0_init 1 = .ok (.invokespecial 3, 3) := by decide +kernel
theorem dX0_init_4 : decode cX0_init 4 = .ok (.aload_n 0, 1) := by decide +kernel
theorem dX0_init_5 : decode cX0_init 5 = .ok (.bipush 14, 2) := by decide +kernel
theorem dX0_init_7 : decode cX0_init 7 = .ok (.newarray .long, 2) := by decide +kernel
theorem dX0_init_9 : decode cX0_init 9 = .ok (.putfield 9, 3) := by decide +kernel
theorem dX0_init_12 : decode cX0_init 12 = .ok (.return_, 1) := by decide +kernel
theorem dX0_count_0 : decode cX0_count 0 = .ok (.aload_n 0, 1) := by decide +kernel
theorem dX0_count_1 : decode cX0_count 1 = .ok (.getfield 15, 3) := by decide +kernel
theorem dX0_count_4 : decode cX0_count 4 = .ok (.ireturn, 1) := by decide +kernel
theorem dX0_forgetAll_0 : decode cX0_forgetAll 0 = .ok (.aload_n 0, 1) := by decide +kernel
theorem dX0_forgetAll_1 : decode cX0_forgetAll 1 = .ok (.iconst 0, 1) := by decide +kernel
theorem dX0_forgetAll_2 : decode cX0_forgetAll 2 = .ok (.putfield 15, 3) := by decide +kernel
theorem dX0_forgetAll_5 : decode cX0_forgetAll 5 = .ok (.return_, 1) := by decide +kernel
theorem dX0_remember_0 : decode cX0_remember 0 = .ok (.aload_n 0, 1) := by decide +kernel
theorem dX0_remember_1 : decode cX0_remember 1 = .ok (.getfield 15, 3) := by decide +kernel
theorem dX0_remember_4 : decode cX0_remember 4 = .ok (.aload_n 0, 1) := by decide +kernel
theorem dX0_remember_5 : decode cX0_remember 5 = .ok (.getfield 9, 3) := by decide +kernel
theorem dX0_remember_8 : decode cX0_remember 8 = .ok (.arraylength, 1) := by decide +kernel
theorem dX0_remember_9 : decode cX0_remember 9 = .ok (.if_icmp .lt 7, 3) := by decide +kernel
theorem dX0_remember_12 : decode cX0_remember 12 = .ok (.aload_n 0, 1) := by decide +kernel
theorem dX0_remember_13 : decode cX0_remember 13 = .ok (.invokevirtual 19, 3) := by decide +kernel
theorem dX0_remember_16 : decode cX0_remember 16 = .ok (.aload_n 0, 1) := by decide +kernel
theorem dX0_remember_17 : decode cX0_remember 17 = .ok (.getfield 15, 3) := by decide +kernel
theorem dX0_remember_20 : decode cX0_remember 20 = .ok (.ifCond .lt 35, 3) := by decide +kernel
theorem dX0_remember_23 : decode cX0_remember 23 = .ok (.aload_n 0, 1) := by decide +kernel
theorem dX0_remember_24 : decode cX0_remember 24 = .ok (.getfield 15, 3) := by decide +kernel
theorem dX0_remember_27 : decode cX0_remember 27 = .ok (.aload_n 0, 1) := by decide +kernel
theorem dX0_remember_28 : decode cX0_remember 28 = .ok (.getfield 9, 3) := by decide +kernel
theorem dX0_remember_31 : decode cX0_remember 31 = .ok (.arraylength, 1) := by decide +kernel
theorem dX0_remember_32 : decode cX0_remember 32 = .ok (.if_icmp .ge 23, 3) := by decide +kernel
theorem dX0_remember_35 : decode cX0_remember 35 = .ok (.aload_n 0, 1) := by decide +kernel
theorem dX0_remember_36 : decode cX0_remember 36 = .ok (.getfield 9, 3) := by decide +kernel
theorem dX0_remember_39 : decode cX0_remember 39 = .ok (.aload_n 0, 1) := by decide +kernel
theorem dX0_remember_40 : decode cX0_remember 40 = .ok (.getfield 15, 3) := by decide +kernel
theorem dX0_remember_43 : decode cX0_remember 43 = .ok (.lload_n 1, 1) := by decide +kernel
theorem dX0_remember_44 : decode cX0_remember 44 = .ok (.lastore, 1) := by decide +kernel
theorem dX0_remember_45 : decode cX0_remember 45 = .ok (.aload_n 0, 1) := by decide +kernel
theorem dX0_remember_46 : decode cX0_remember 46 = .ok (.dup, 1) := by decide +kernel
theorem dX0_remember_47 : decode cX0_remember 47 = .ok (.getfield 15, 3) := by decide +kernel
theorem dX0_remember_50 : decode cX0_remember 50 = .ok (.iconst 1, 1) := by decide +kernel
theorem dX0_remember_51 : decode cX0_remember 51 = .ok (.iadd, 1) := by decide +kernel
theorem dX0_remember_52 : decode cX0_remember 52 = .ok (.putfield 15, 3) := by decide +kernel
theorem dX0_remember_55 : decode cX0_remember 55 = .ok (.return_, 1) := by decide +kernel
theorem dX0_forgetFirst_0 : decode cX0_forgetFirst 0 = .ok (.iconst 1, 1) := by decide +kernel
theorem dX0_forgetFirst_1 : decode cX0_forgetFirst 1 = .ok (.istore_n 1, 1) := by decide +kernel
theorem dX0_forgetFirst_2 : decode cX0_forgetFirst 2 = .ok (.iload_n 1, 1) := by decide +kernel
theorem dX0_forgetFirst_3 : decode cX0_forgetFirst 3 = .ok (.aload_n 0, 1) := by decide +kernel
theorem dX0_forgetFirst_4 : decode cX0_forgetFirst 4 = .ok (.getfield 9, 3) := by decide +kernel
theorem dX0_forgetFirst_7 : decode cX0_forgetFirst 7 = .ok (.arraylength, 1) := by decide +kernel
theorem dX0_forgetFirst_8 : decode cX0_forgetFirst 8 = .ok (.if_icmp .ge 23, 3) := by decide +kernel
theorem dX0_forgetFirst_11 : decode cX0_forgetFirst 11 = .ok (.aload_n 0, 1) := by decide +kernel
theorem dX0_forgetFirst_12 : decode cX0_forgetFirst 12 = .ok (.getfield 9, 3) := by decide +kernel
theorem dX0_forgetFirst_15 : decode cX0_forgetFirst 15 = .ok (.iload_n 1, 1) := by decide +kernel
theorem dX0_forgetFirst_16 : decode cX0_forgetFirst 16 = .ok (.iconst 1, 1) := by decide +kernel
theorem dX0_forgetFirst_17 : decode cX0_forgetFirst 17 = .ok (.isub, 1) := by decide +kernel
theorem dX0_forgetFirst_18 : decode cX0_forgetFirst 18 = .ok (.aload_n 0, 1) := by decide +kernel
theorem dX0_forgetFirst_19 : decode cX0_forgetFirst 19 = .ok (.getfield 9, 3) := by decide +kernel
theorem dX0_forgetFirst_22 : decode cX0_forgetFirst 22 = .ok (.iload_n 1, 1) := by decide +kernel
theorem dX0_forgetFirst_23 : decode cX0_forgetFirst 23 = .ok (.laload, 1) := by decide +kernel
theorem dX0_forgetFirst_24 : decode cX0_forgetFirst 24 = .ok (.lastore, 1) := by decide +kernel
theorem dX0_forgetFirst_25 : decode cX0_forgetFirst 25 = .ok (.iinc 1 1, 3) := by decide +kernel
theorem dX0_forgetFirst_28 : decode cX0_forgetFirst 28 = .ok (.goto (-26), 3) := by decide +kernel
theorem dX0_forgetFirst_31 : decode cX0_forgetFirst 31 = .ok (.aload_n 0, 1) := by decide +kernel
theorem dX0_forgetFirst_32 : decode cX0_forgetFirst 32 = .ok (.aload_n 0, 1) := by decide +kernel
theorem dX0_forgetFirst_33 : decode cX0_forgetFirst 33 = .ok (.getfield 9, 3) := by decide +kernel
theorem dX0_forgetFirst_36 : decode cX0_forgetFirst 36 = .ok (.arraylength, 1) := by decide +kernel
theorem dX0_forgetFirst_37 : decode cX0_forgetFirst 37 = .ok (.iconst 1, 1) := by decide +kernel
theorem dX0_forgetFirst_38 : decode cX0_forgetFirst 38 = .ok (.isub, 1) := by decide +kernel
theorem dX0_forgetFirst_39 : decode cX0_forgetFirst 39 = .ok (.putfield 15, 3) := by decide +kernel
theorem dX0_forgetFirst_42 : decode cX0_forgetFirst 42 = .ok (.return_, 1) := by decide +kernel
theorem dX0_takeLast_0 : decode cX0_takeLast 0 = .ok (.aload_n 0, 1) := by decide +kernel
theorem dX0_takeLast_1 : decode cX0_takeLast 1 = .ok (.getfield 15, 3) := by decide +kernel
theorem dX0_takeLast_4 : decode cX0_takeLast 4 = .ok (.ifCond .le 15, 3) := by decide +kernel
theorem dX0_takeLast_7 : decode cX0_takeLast 7 = .ok (.aload_n 0, 1) := by decide +kernel
theorem dX0_takeLast_8 : decode cX0_takeLast 8 = .ok (.getfield 15, 3) := by decide +kernel
theorem dX0_takeLast_11 : decode cX0_takeLast 11 = .ok (.aload_n 0, 1) := by decide +kernel
theorem dX0_takeLast_12 : decode cX0_takeLast 12 = .ok (.getfield 9, 3) := by decide +kernel
theorem dX0_takeLast_15 : decode cX0_takeLast 15 = .ok (.arraylength, 1) := by decide +kernel
theorem dX0_takeLast_16 : decode cX0_takeLast 16 = .ok (.if_icmp .le 5, 3) := by decide +kernel
theorem dX0_takeLast_19 : decode cX0_takeLast 19 = .ok (.lconst 0, 1) := by decide +kernel
theorem dX0_takeLast_20 : decode cX0_takeLast 20 = .ok (.lreturn, 1) := by decide +kernel
theorem dX0_takeLast_21 : decode cX0_takeLast 21 = .ok (.aload_n 0, 1) := by decide +kernel
theorem dX0_takeLast_22 : decode cX0_takeLast 22 = .ok (.dup, 1) := by decide +kernel
theorem dX0_takeLast_23 : decode cX0_takeLast 23 = .ok (.getfield 15, 3) := by decide +kernel
theorem dX0_takeLast_26 : decode cX0_takeLast 26 = .ok (.iconst 1, 1) := by decide +kernel
theorem dX0_takeLast_27 : decode cX0_takeLast 27 = .ok (.isub, 1) := by decide +kernel
theorem dX0_takeLast_28 : decode cX0_takeLast 28 = .ok (.putfield 15, 3) := by decide +kernel
theorem dX0_takeLast_31 : decode cX0_takeLast 31 = .ok (.aload_n 0, 1) := by decide +kernel
theorem dX0_takeLast_32 : decode cX0_takeLast 32 = .ok (.getfield 9, 3) := by decide +kernel
theorem dX0_takeLast_35 : decode cX0_takeLast 35 = .ok (.aload_n 0, 1) := by decide +kernel
theorem dX0_takeLast_36 : decode cX0_takeLast 36 = .ok (.getfield 15, 3) := by decide +kernel
theorem dX0_takeLast_39 : decode cX0_takeLast 39 = .ok (.laload, 1) := by decide +kernel
theorem dX0_takeLast_40 : decode cX0_takeLast 40 = .ok (.lreturn, 1) := by decide +kernel
theorem dX1_init_0 : decode cX1_init 0 = .ok (.aload_n 0, 1) := by decide +kernel
theorem dX1_init_1 : decode cX1_init 1 = .ok (.invokespecial 3, 3) := by decide +kernel
theorem dX1_init_4 : decode cX1_init 4 = .ok (.aload_n 0, 1) := by decide +kernel
theorem dX1_init_5 : decode cX1_init 5 = .ok (.iconst 4, 1) := by decide +kernel
theorem dX1_init_6 : decode cX1_init 6 = .ok (.newarray .int, 2) := by decide +kernel
theorem dX1_init_8 : decode cX1_init 8 = .ok (.putfield 9, 3) := by decide +kernel
theorem dX1_init_11 : decode cX1_init 11 = .ok (.aload_n 0, 1) := by decide +kernel
theorem dX1_init_12 : decode cX1_init 12 = .ok (.iconst 4, 1) := by decide +kernel
theorem dX1_init_13 : decode cX1_init 13 = .ok (.newarray .int, 2) := by decide +kernel
theorem dX1_init_15 : decode cX1_init 15 = .ok (.putfield 15, 3) := by decide +kernel
theorem dX1_init_18 : decode cX1_init 18 = .ok (.aload_n 0, 1) := by decide +kernel
theorem dX1_init_19 : decode cX1_init 19 = .ok (.aload_n 1, 1) := by decide +kernel
theorem dX1_init_20 : decode cX1_init 20 = .ok (.putfield 18, 3) := by decide +kernel
theorem dX1_init_23 : decode cX1_init 23 = .ok (.aload_n 0, 1) := by decide +kernel
theorem dX1_init_24 : decode cX1_init 24 = .ok (.aload_n 2, 1) := by decide +kernel
theorem dX1_init_25 : decode cX1_init 25 = .ok (.putfield 22, 3) := by decide +kernel
theorem dX1_init_28 : decode cX1_init 28 = .ok (.return_, 1) := by decide +kernel
theorem dX1_weighPairs_0 : decode cX1_weighPairs 0 = .ok (.iconst 0, 1) := by decide +kernel
theorem dX1_weighPairs_1 : decode cX1_weighPairs 1 = .ok (.istore_n 3, 1) := by decide +kernel
theorem dX1_weighPairs_2 : decode cX1_weighPairs 2 = .ok (.iload_n 3, 1) := by decide +kernel
theorem dX1_weighPairs_3 : decode cX1_weighPairs 3 = .ok (.aload_n 0, 1) := by decide +kernel
theorem dX1_weighPairs_4 : decode cX1_weighPairs 4 = .ok (.getfield 9, 3) := by decide +kernel
theorem dX1_weighPairs_7 : decode cX1_weighPairs 7 = .ok (.arraylength, 1) := by decide +kernel
theorem dX1_weighPairs_8 : decode cX1_weighPairs 8 = .ok (.if_icmp .ge 147, 3) := by decide +kernel
theorem dX1_weighPairs_11 : decode cX1_weighPairs 11 = .ok (.iload_n 3, 1) := by decide +kernel
theorem dX1_weighPairs_12 : decode cX1_weighPairs 12 = .ok (.aload_n 0, 1) := by decide +kernel
theorem dX1_weighPairs_13 : decode cX1_weighPairs 13 = .ok (.getfield 15, 3) := by decide +kernel
theorem dX1_weighPairs_16 : decode cX1_weighPairs 16 = .ok (.arraylength, 1) := by decide +kernel
theorem dX1_weighPairs_17 : decode cX1_weighPairs 17 = .ok (.if_icmp .ge 138, 3) := by decide +kernel
theorem dX1_weighPairs_20 : decode cX1_weighPairs 20 = .ok (.iload_n 3, 1) := by decide +kernel
theorem dX1_weighPairs_21 : decode cX1_weighPairs 21 = .ok (.iconst 1, 1) := by decide +kernel
theorem dX1_weighPairs_22 : decode cX1_weighPairs 22 = .ok (.ishr, 1) := by decide +kernel
theorem dX1_weighPairs_23 : decode cX1_weighPairs 23 = .ok (.istore 4, 2) := by decide +kernel
theorem dX1_weighPairs_25 : decode cX1_weighPairs 25 = .ok (.iload_n 3, 1) := by decide +kernel
theorem dX1_weighPairs_26 : decode cX1_weighPairs 26 = .ok (.iconst 1, 1) := by decide +kernel
theorem dX1_weighPairs_27 : decode cX1_weighPairs 27 = .ok (.iand, 1) := by decide +kernel
theorem dX1_weighPairs_28 : decode cX1_weighPairs 28 = .ok (.istore 5, 2) := by decide +kernel
theorem dX1_weighPairs_30 : decode cX1_weighPairs 30 = .ok (.aload_n 0, 1) := by decide +kernel
theorem dX1_weighPairs_31 : decode cX1_weighPairs 31 = .ok (.getfield 22, 3) := by decide +kernel
theorem dX1_weighPairs_34 : decode cX1_weighPairs 34 = .ok (.aload_n 0, 1) := by decide +kernel
theorem dX1_weighPairs_35 : decode cX1_weighPairs 35 = .ok (.getfield 18, 3) := by decide +kernel
theorem dX1_weighPairs_38 : decode cX1_weighPairs 38 = .ok (.invokevirtual 25, 3) := by decide +kernel
theorem dX1_weighPairs_41 : decode cX1_weighPairs 41 = .ok (.iload 4, 2) := by decide +kernel
theorem dX1_weighPairs_43 : decode cX1_weighPairs 43 = .ok (.iconst 1, 1) := by decide +kernel
theorem dX1_weighPairs_44 : decode cX1_weighPairs 44 = .ok (.if_icmp .ne 11, 3) := by decide +kernel
theorem dX1_weighPairs_47 : decode cX1_weighPairs 47 = .ok (.aload_n 0, 1) := by decide +kernel
theorem dX1_weighPairs_48 : decode cX1_weighPairs 48 = .ok (.getfield 22, 3) := by decide +kernel
theorem dX1_weighPairs_51 : decode cX1_weighPairs 51 = .ok (.iload_n 1, 1) := by decide +kernel
theorem dX1_weighPairs_52 : decode cX1_weighPairs 52 = .ok (.invokevirtual 31, 3) := by decide +kernel
theorem dX1_weighPairs_55 : decode cX1_weighPairs 55 = .ok (.iload 5, 2) := by decide +kernel
theorem dX1_weighPairs_57 : decode cX1_weighPairs 57 = .ok (.iconst 1, 1) := by decide +kernel
theorem dX1_weighPairs_58 : decode cX1_weighPairs 58 = .ok (.if_icmp .ne 11, 3) := by decide +kernel
theorem dX1_weighPairs_61 : decode cX1_weighPairs 61 = .ok (.aload_n 0, 1) := by decide +kernel
theorem dX1_weighPairs_62 : decode cX1_weighPairs 62 = .ok (.getfield 22, 3) := by decide +kernel
theorem dX1_weighPairs_65 : decode cX1_weighPairs 65 = .ok (.iload_n 2, 1) := by decide +kernel
theorem dX1_weighPairs_66 : decode cX1_weighPairs 66 = .ok (.invokevirtual 31, 3) := by decide +kernel
theorem dX1_weighPairs_69 : decode cX1_weighPairs 69 = .ok (.aload_n 0, 1) := by decide +kernel
theorem dX1_weighPairs_70 : decode cX1_weighPairs 70 = .ok (.getfield 22, 3) := by decide +kernel
theorem dX1_weighPairs_73 : decode cX1_weighPairs 73 = .ok (.iconst 3, 1) := by decide +kernel
theorem dX1_weighPairs_74 : decode cX1_weighPairs 74 = .ok (.invokevirtual 35, 3) := by decide +kernel
theorem dX1_weighPairs_77 : decode cX1_weighPairs 77 = .ok (.aload_n 0, 1) := by decide +kernel
theorem dX1_weighPairs_78 : decode cX1_weighPairs 78 = .ok (.getfield 22, 3) := by decide +kernel
theorem dX1_weighPairs_81 : decode cX1_weighPairs 81 = .ok (.invokevirtual 38, 3) := by decide +kernel
theorem dX1_weighPairs_84 : decode cX1_weighPairs 84 = .ok (.aload_n 0, 1) := by decide +kernel
theorem dX1_weighPairs_85 : decode cX1_weighPairs 85 = .ok (.getfield 18, 3) := by decide +kernel
theorem dX1_weighPairs_88 : decode cX1_weighPairs 88 = .ok (.invokevirtual 38, 3) := by decide +kernel
theorem dX1_weighPairs_91 : decode cX1_weighPairs 91 = .ok (.isub, 1) := by decide +kernel
theorem dX1_weighPairs_92 : decode cX1_weighPairs 92 = .ok (.istore 6, 2) := by decide +kernel
theorem dX1_weighPairs_94 : decode cX1_weighPairs 94 = .ok (.aload_n 0, 1) := by decide +kernel
theorem dX1_weighPairs_95 : decode cX1_weighPairs 95 = .ok (.getfield 22, 3) := by decide +kernel
theorem dX1_weighPairs_98 : decode cX1_weighPairs 98 = .ok (.invokevirtual 42, 3) := by decide +kernel
theorem dX1_weighPairs_101 : decode cX1_weighPairs 101 = .ok (.istore 7, 2) := by decide +kernel
theorem dX1_weighPairs_103 : decode cX1_weighPairs 103 = .ok (.aload_n 0, 1) := by decide +kernel
theorem dX1_weighPairs_104 : decode cX1_weighPairs 104 = .ok (.getfield 9, 3) := by decide +kernel
theorem dX1_weighPairs_107 : decode cX1_weighPairs 107 = .ok (.iload_n 3, 1) := by decide +kernel
theorem dX1_weighPairs_108 : decode cX1_weighPairs 108 = .ok (.iload 6, 2) := by decide +kernel
theorem dX1_weighPairs_110 : decode cX1_weighPairs 110 = .ok (.iload 7, 2) := by decide +kernel
theorem dX1_weighPairs_112 : decode cX1_weighPairs 112 = .ok (.iload_n 1, 1) := by decide +kernel
theorem dX1_weighPairs_113 : decode cX1_weighPairs 113 = .ok (.if_icmp .ne 7, 3) := by decide +kernel
theorem dX1_weighPairs_116 : decode cX1_weighPairs 116 = .ok (.iconst 4, 1) := by decide +kernel
theorem dX1_weighPairs_117 : decode cX1_weighPairs 117 = .ok (.goto 4, 3) := by decide +kernel
theorem dX1_weighPairs_120 : decode cX1_weighPairs 120 = .ok (.iconst 0, 1) := by decide +kernel
theorem dX1_weighPairs_121 : decode cX1_weighPairs 121 = .ok (.iadd, 1) := by decide +kernel
theorem dX1_weighPairs_122 : decode cX1_weighPairs 122 = .ok (.iload 4, 2) := by decide +kernel
theorem dX1_weighPairs_124 : decode cX1_weighPairs 124 = .ok (.isub, 1) := by decide +kernel
theorem dX1_weighPairs_125 : decode cX1_weighPairs 125 = .ok (.iastore, 1) := by decide +kernel
theorem dX1_weighPairs_126 : decode cX1_weighPairs 126 = .ok (.aload_n 0, 1) := by decide +kernel
theorem dX1_weighPairs_127 : decode cX1_weighPairs 127 = .ok (.getfield 15, 3) := by decide +kernel
theorem dX1_weighPairs_130 : decode cX1_weighPairs 130 = .ok (.iload_n 3, 1) := by decide +kernel
theorem dX1_weighPairs_131 : decode cX1_weighPairs 131 = .ok (.iload 6, 2) := by decide +kernel
theorem dX1_weighPairs_133 : decode cX1_weighPairs 133 = .ok (.iload 7, 2) := by decide +kernel
theorem dX1_weighPairs_135 : decode cX1_weighPairs 135 = .ok (.iload_n 2, 1) := by decide +kernel
theorem dX1_weighPairs_136 : decode cX1_weighPairs 136 = .ok (.if_icmp .ne 7, 3) := by decide +kernel
theorem dX1_weighPairs_139 : decode cX1_weighPairs 139 = .ok (.iconst 4, 1) := by decide +kernel
theorem dX1_weighPairs_140 : decode cX1_weighPairs 140 = .ok (.goto 4, 3) := by decide +kernel
theorem dX1_weighPairs_143 : decode cX1_weighPairs 143 = .ok (.iconst 0, 1) := by decide +kernel
theorem dX1_weighPairs_144 : decode cX1_weighPairs 144 = .ok (.iadd, 1) := by decide +kernel
theorem dX1_weighPairs_145 : decode cX1_weighPairs 145 = .ok (.iload 5, 2) := by decide +kernel
theorem dX1_weighPairs_147 : decode cX1_weighPairs 147 = .ok (.isub, 1) := by decide +kernel
theorem dX1_weighPairs_148 : decode cX1_weighPairs 148 = .ok (.iastore, 1) := by decide +kernel
theorem dX1_weighPairs_149 : decode cX1_weighPairs 149 = .ok (.iinc 3 1, 3) := by decide +kernel
theorem dX1_weighPairs_152 : decode cX1_weighPairs 152 = .ok (.goto (-150), 3) := by decide +kernel
theorem dX1_weighPairs_155 : decode cX1_weighPairs 155 = .ok (.return_, 1) := by decide +kernel
theorem dX1_hasBy_0 : decode cX1_hasBy 0 = .ok (.iload_n 1, 1) := by decide +kernel
theorem dX1_hasBy_1 : decode cX1_hasBy 1 = .ok (.ifCond .lt 15, 3) := by decide +kernel
theorem dX1_hasBy_4 : decode cX1_hasBy 4 = .ok (.iload_n 1, 1) := by decide +kernel
theorem dX1_hasBy_5 : decode cX1_hasBy 5 = .ok (.aload_n 0, 1) := by decide +kernel
theorem dX1_hasBy_6 : decode cX1_hasBy 6 = .ok (.arraylength, 1) := by decide +kernel
theorem dX1_hasBy_7 : decode cX1_hasBy 7 = .ok (.if_icmp .ge 9, 3) := by decide +kernel
theorem dX1_hasBy_10 : decode cX1_hasBy 10 = .ok (.aload_n 0, 1) := by decide +kernel
theorem dX1_hasBy_11 : decode cX1_hasBy 11 = .ok (.iload_n 1, 1) := by decide +kernel
theorem dX1_hasBy_12 : decode cX1_hasBy 12 = .ok (.iaload, 1) := by decide +kernel
theorem dX1_hasBy_13 : decode cX1_hasBy 13 = .ok (.goto 4, 3) := by decide +kernel
theorem dX1_hasBy_16 : decode cX1_hasBy 16 = .ok (.iconst 0, 1) := by decide +kernel
theorem dX1_hasBy_17 : decode cX1_hasBy 17 = .ok (.ireturn, 1) := by decide +kernel
theorem dX1_isRest_0 : decode cX1_isRest 0 = .ok (.aload_n 0, 1) := by decide +kernel
theorem dX1_isRest_1 : decode cX1_isRest 1 = .ok (.getfield 9, 3) := by decide +kernel
theorem dX1_isRest_4 : decode cX1_isRest 4 = .ok (.iload_n 1, 1) := by decide +kernel
theorem dX1_isRest_5 : decode cX1_isRest 5 = .ok (.iconst 2, 1) := by decide +kernel
theorem dX1_isRest_6 : decode cX1_isRest 6 = .ok (.ixor, 1) := by decide +kernel
theorem dX1_isRest_7 : decode cX1_isRest 7 = .ok (.invokestatic 45, 3) := by decide +kernel
theorem dX1_isRest_10 : decode cX1_isRest 10 = .ok (.aload_n 0, 1) := by decide +kernel
theorem dX1_isRest_11 : decode cX1_isRest 11 = .ok (.getfield 9, 3) := by decide +kernel
theorem dX1_isRest_14 : decode cX1_isRest 14 = .ok (.iload_n 1, 1) := by decide +kernel
theorem dX1_isRest_15 : decode cX1_isRest 15 = .ok (.invokestatic 45, 3) := by decide +kernel
theorem dX1_isRest_18 : decode cX1_isRest 18 = .ok (.if_icmp .gt 28, 3) := by decide +kernel
theorem dX1_isRest_21 : decode cX1_isRest 21 = .ok (.aload_n 0, 1) := by decide +kernel
theorem dX1_isRest_22 : decode cX1_isRest 22 = .ok (.getfield 15, 3) := by decide +kernel
theorem dX1_isRest_25 : decode cX1_isRest 25 = .ok (.iload_n 1, 1) := by decide +kernel
theorem dX1_isRest_26 : decode cX1_isRest 26 = .ok (.iconst 1, 1) := by decide +kernel
theorem dX1_isRest_27 : decode cX1_isRest 27 = .ok (.ixor, 1) := by decide +kernel
theorem dX1_isRest_28 : decode cX1_isRest 28 = .ok (.invokestatic 45, 3) := by decide +kernel
theorem dX1_isRest_31 : decode cX1_isRest 31 = .ok (.aload_n 0, 1) := by decide +kernel
theorem dX1_isRest_32 : decode cX1_isRest 32 = .ok (.getfield 15, 3) := by decide +kernel
theorem dX1_isRest_35 : decode cX1_isRest 35 = .ok (.iload_n 1, 1) := by decide +kernel
theorem dX1_isRest_36 : decode cX1_isRest 36 = .ok (.invokestatic 45, 3) := by decide +kernel
theorem dX1_isRest_39 : decode cX1_isRest 39 = .ok (.if_icmp .gt 7, 3) := by decide +kernel
theorem dX1_isRest_42 : decode cX1_isRest 42 = .ok (.iconst 1, 1) := by decide +kernel
theorem dX1_isRest_43 : decode cX1_isRest 43 = .ok (.goto 4, 3) := by decide +kernel
theorem dX1_isRest_46 : decode cX1_isRest 46 = .ok (.iconst 0, 1) := by decide +kernel
theorem dX1_isRest_47 : decode cX1_isRest 47 = .ok (.ireturn, 1) := by decide +kernel
theorem dX1_restCount_0 : decode cX1_restCount 0 = .ok (.iconst 0, 1) := by decide +kernel
theorem dX1_restCount_1 : decode cX1_restCount 1 = .ok (.istore_n 1, 1) := by decide +kernel
theorem dX1_restCount_2 : decode cX1_restCount 2 = .ok (.iconst 0, 1) := by decide +kernel
theorem dX1_restCount_3 : decode cX1_restCount 3 = .ok (.istore_n 2, 1) := by decide +kernel
theorem dX1_restCount_4 : decode cX1_restCount 4 = .ok (.iload_n 2, 1) := by decide +kernel
theorem dX1_restCount_5 : decode cX1_restCount 5 = .ok (.aload_n 0, 1) := by decide +kernel
theorem dX1_restCount_6 : decode cX1_restCount 6 = .ok (.getfield 9, 3) := by decide +kernel
theorem dX1_restCount_9 : decode cX1_restCount 9 = .ok (.arraylength, 1) := by decide +kernel
theorem dX1_restCount_10 : decode cX1_restCount 10 = .ok (.if_icmp .ge 20, 3) := by decide +kernel
theorem dX1_restCount_13 : decode cX1_restCount 13 = .ok (.aload_n 0, 1) := by decide +kernel
theorem dX1_restCount_14 : decode cX1_restCount 14 = .ok (.iload_n 2, 1) := by decide +kernel
theorem dX1_restCount_15 : decode cX1_restCount 15 = .ok (.invokevirtual 49, 3) := by decide +kernel
theorem dX1_restCount_18 : decode cX1_restCount 18 = .ok (.ifCond .eq 6, 3) := by decide +kernel
theorem dX1_restCount_21 : decode cX1_restCount 21 = .ok (.iinc 1 1, 3) := by decide +kernel
theorem dX1_restCount_24 : decode cX1_restCount 24 = .ok (.iinc 2 1, 3) := by decide +kernel
theorem dX1_restCount_27 : decode cX1_restCount 27 = .ok (.goto (-23), 3) := by decide +kernel
theorem dX1_restCount_30 : decode cX1_restCount 30 = .ok (.iload_n 1, 1) := by decide +kernel
theorem dX1_restCount_31 : decode cX1_restCount 31 = .ok (.ireturn, 1) := by decide +kernel
theorem dX1_firstRest_0 : decode cX1_firstRest 0 = .ok (.iconst 0, 1) := by decide +kernel
theorem dX1_firstRest_1 : decode cX1_firstRest 1 = .ok (.istore_n 1, 1) := by decide +kernel
theorem dX1_firstRest_2 : decode cX1_firstRest 2 = .ok (.iload_n 1, 1) := by decide +kernel
theorem dX1_firstRest_3 : decode cX1_firstRest 3 = .ok (.aload_n 0, 1) := by decide +kernel
theorem dX1_firstRest_4 : decode cX1_firstRest 4 = .ok (.getfield 9, 3) := by decide +kernel
theorem dX1_firstRest_7 : decode cX1_firstRest 7 = .ok (.arraylength, 1) := by decide +kernel
theorem dX1_firstRest_8 : decode cX1_firstRest 8 = .ok (.if_icmp .ge 28, 3) := by decide +kernel
theorem dX1_firstRest_11 : decode cX1_firstRest 11 = .ok (.aload_n 0, 1) := by decide +kernel
theorem dX1_firstRest_12 : decode cX1_firstRest 12 = .ok (.iload_n 1, 1) := by decide +kernel
theorem dX1_firstRest_13 : decode cX1_firstRest 13 = .ok (.invokevirtual 49, 3) := by decide +kernel
theorem dX1_firstRest_16 : decode cX1_firstRest 16 = .ok (.ifCond .eq 14, 3) := by decide +kernel
theorem dX1_firstRest_19 : decode cX1_firstRest 19 = .ok (.bipush 10, 2) := by decide +kernel
theorem dX1_firstRest_21 : decode cX1_firstRest 21 = .ok (.iload_n 1, 1) := by decide +kernel
theorem dX1_firstRest_22 : decode cX1_firstRest 22 = .ok (.iconst 1, 1) := by decide +kernel
theorem dX1_firstRest_23 : decode cX1_firstRest 23 = .ok (.ishr, 1) := by decide +kernel
theorem dX1_firstRest_24 : decode cX1_firstRest 24 = .ok (.imul, 1) := by decide +kernel
theorem dX1_firstRest_25 : decode cX1_firstRest 25 = .ok (.iload_n 1, 1) := by decide +kernel
theorem dX1_firstRest_26 : decode cX1_firstRest 26 = .ok (.iconst 1, 1) := by decide +kernel
theorem dX1_firstRest_27 : decode cX1_firstRest 27 = .ok (.iand, 1) := by decide +kernel
theorem dX1_firstRest_28 : decode cX1_firstRest 28 = .ok (.iadd, 1) := by decide +kernel
theorem dX1_firstRest_29 : decode cX1_firstRest 29 = .ok (.ireturn, 1) := by decide +kernel
theorem dX1_firstRest_30 : decode cX1_firstRest 30 = .ok (.iinc 1 1, 3) := by decide +kernel
theorem dX1_firstRest_33 : decode cX1_firstRest 33 = .ok (.goto (-31), 3) := by decide +kernel
theorem dX1_firstRest_36 : decode cX1_firstRest 36 = .ok (.bipush (-9), 2) := by decide +kernel
theorem dX1_firstRest_38 : decode cX1_firstRest 38 = .ok (.ireturn, 1) := by decide +kernel
theorem dX1_weightInTime_0 : decode cX1_weightInTime 0 = .ok (.aload_n 0, 1) := by decide +kernel
theorem dX1_weightInTime_1 : decode cX1_weightInTime 1 = .ok (.getfield 18, 3) := by decide +kernel
theorem dX1_weightInTime_4 : decode cX1_weightInTime 4 = .ok (.invokevirtual 53, 3) := by decide +kernel
theorem dX1_weightInTime_7 : decode cX1_weightInTime 7 = .ok (.istore_n 3, 1) := by decide +kernel
theorem dX1_weightInTime_8 : decode cX1_weightInTime 8 = .ok (.iconst 0, 1) := by decide +kernel
theorem dX1_weightInTime_9 : decode cX1_weightInTime 9 = .ok (.istore 4, 2) := by decide +kernel
theorem dX1_weightInTime_11 : decode cX1_weightInTime 11 = .ok (.iconst 0, 1) := by decide +kernel
theorem dX1_weightInTime_12 : decode cX1_weightInTime 12 = .ok (.istore 5, 2) := by decide +kernel
theorem dX1_weightInTime_14 : decode cX1_weightInTime 14 = .ok (.iload 5, 2) := by decide +kernel
theorem dX1_weightInTime_16 : decode cX1_weightInTime 16 = .ok (.iconst 1, 1) := by decide +kernel
theorem dX1_weightInTime_17 : decode cX1_weightInTime 17 = .ok (.iload_n 3, 1) := by decide +kernel
theorem dX1_weightInTime_18 : decode cX1_weightInTime 18 = .ok (.ishl, 1) := by decide +kernel
theorem dX1_weightInTime_19 : decode cX1_weightInTime 19 = .ok (.if_icmp .ge 58, 3) := by decide +kernel
theorem dX1_weightInTime_22 : decode cX1_weightInTime 22 = .ok (.iload 5, 2) := by decide +kernel
theorem dX1_weightInTime_24 : decode cX1_weightInTime 24 = .ok (.invokestatic 56, 3) := by decide +kernel
theorem dX1_weightInTime_27 : decode cX1_weightInTime 27 = .ok (.istore 6, 2) := by decide +kernel
theorem dX1_weightInTime_29 : decode cX1_weightInTime 29 = .ok (.iload_n 2, 1) := by decide +kernel
theorem dX1_weightInTime_30 : decode cX1_weightInTime 30 = .ok (.iload 6, 2) := by decide +kernel
theorem dX1_weightInTime_32 : decode cX1_weightInTime 32 = .ok (.invokestatic 62, 3) := by decide +kernel
theorem dX1_weightInTime_35 : decode cX1_weightInTime 35 = .ok (.bipush 10, 2) := by decide +kernel
theorem dX1_weightInTime_37 : decode cX1_weightInTime 37 = .ok (.iload_n 2, 1) := by decide +kernel
theorem dX1_weightInTime_38 : decode cX1_weightInTime 38 = .ok (.isub, 1) := by decide +kernel
theorem dX1_weightInTime_39 : decode cX1_weightInTime 39 = .ok (.iload_n 3, 1) := by decide +kernel
theorem dX1_weightInTime_40 : decode cX1_weightInTime 40 = .ok (.iload 6, 2) := by decide +kernel
theorem dX1_weightInTime_42 : decode cX1_weightInTime 42 = .ok (.isub, 1) := by decide +kernel
theorem dX1_weightInTime_43 : decode cX1_weightInTime 43 = .ok (.invokestatic 62, 3) := by decide +kernel
theorem dX1_weightInTime_46 : decode cX1_weightInTime 46 = .ok (.imul, 1) := by decide +kernel
theorem dX1_weightInTime_47 : decode cX1_weightInTime 47 = .ok (.istore 7, 2) := by decide +kernel
theorem dX1_weightInTime_49 : decode cX1_weightInTime 49 = .ok (.iload 7, 2) := by decide +kernel
theorem dX1_weightInTime_51 : decode cX1_weightInTime 51 = .ok (.ifCond .le 20, 3) := by decide +kernel
theorem dX1_weightInTime_54 : decode cX1_weightInTime 54 = .ok (.aload_n 0, 1) := by decide +kernel
theorem dX1_weightInTime_55 : decode cX1_weightInTime 55 = .ok (.iload 5, 2) := by decide +kernel
theorem dX1_weightInTime_57 : decode cX1_weightInTime 57 = .ok (.iload_n 1, 1) := by decide +kernel
theorem dX1_weightInTime_58 : decode cX1_weightInTime 58 = .ok (.invokevirtual 66, 3) := by decide +kernel
theorem dX1_weightInTime_61 : decode cX1_weightInTime 61 = .ok (.ifCond .eq 10, 3) := by decide +kernel
theorem dX1_weightInTime_64 : decode cX1_weightInTime 64 = .ok (.iload 4, 2) := by decide +kernel
theorem dX1_weightInTime_66 : decode cX1_weightInTime 66 = .ok (.iload 7, 2) := by decide +kernel
theorem dX1_weightInTime_68 : decode cX1_weightInTime 68 = .ok (.iadd, 1) := by decide +kernel
theorem dX1_weightInTime_69 : decode cX1_weightInTime 69 = .ok (.istore 4, 2) := by decide +kernel
theorem dX1_weightInTime_71 : decode cX1_weightInTime 71 = .ok (.iinc 5 1, 3) := by decide +kernel
theorem dX1_weightInTime_74 : decode cX1_weightInTime 74 = .ok (.goto (-60), 3) := by decide +kernel
theorem dX1_weightInTime_77 : decode cX1_weightInTime 77 = .ok (.iload 4, 2) := by decide +kernel
theorem dX1_weightInTime_79 : decode cX1_weightInTime 79 = .ok (.ireturn, 1) := by decide +kernel
theorem dX1_isInTimePricked_0 : decode cX1_isInTimePricked 0 = .ok (.aload_n 0, 1) := by decide +kernel
theorem dX1_isInTimePricked_1 : decode cX1_isInTimePricked 1 = .ok (.getfield 22, 3) := by decide +kernel
theorem dX1_isInTimePricked_4 : decode cX1_isInTimePricked 4 = .ok (.aload_n 0, 1) := by decide +kernel
theorem dX1_isInTimePricked_5 : decode cX1_isInTimePricked 5 = .ok (.getfield 18, 3) := by decide +kernel
theorem dX1_isInTimePricked_8 : decode cX1_isInTimePricked 8 = .ok (.invokevirtual 25, 3) := by decide +kernel
theorem dX1_isInTimePricked_11 : decode cX1_isInTimePricked 11 = .ok (.iconst 0, 1) := by decide +kernel
theorem dX1_isInTimePricked_12 : decode cX1_isInTimePricked 12 = .ok (.istore_n 3, 1) := by decide +kernel
theorem dX1_isInTimePricked_13 : decode cX1_isInTimePricked 13 = .ok (.iload_n 3, 1) := by decide +kernel
theorem dX1_isInTimePricked_14 : decode cX1_isInTimePricked 14 = .ok (.aload_n 0, 1) := by decide +kernel
theorem dX1_isInTimePricked_15 : decode cX1_isInTimePricked 15 = .ok (.getfield 18, 3) := by decide +kernel
theorem dX1_isInTimePricked_18 : decode cX1_isInTimePricked 18 = .ok (.invokevirtual 53, 3) := by decide +kernel
theorem dX1_isInTimePricked_21 : decode cX1_isInTimePricked 21 = .ok (.if_icmp .ge 26, 3) := by decide +kernel
theorem dX1_isInTimePricked_24 : decode cX1_isInTimePricked 24 = .ok (.iload_n 1, 1) := by decide +kernel
theorem dX1_isInTimePricked_25 : decode cX1_isInTimePricked 25 = .ok (.iload_n 3, 1) := by decide +kernel
theorem dX1_isInTimePricked_26 : decode cX1_isInTimePricked 26 = .ok (.ishr, 1) := by decide +kernel
theorem dX1_isInTimePricked_27 : decode cX1_isInTimePricked 27 = .ok (.iconst 1, 1) := by decide +kernel
theorem dX1_isInTimePricked_28 : decode cX1_isInTimePricked 28 = .ok (.iand, 1) := by decide +kernel
theorem dX1_isInTimePricked_29 : decode cX1_isInTimePricked 29 = .ok (.iconst 1, 1) := by decide +kernel
theorem dX1_isInTimePricked_30 : decode cX1_isInTimePricked 30 = .ok (.if_icmp .ne 11, 3) := by decide +kernel
theorem dX1_isInTimePricked_33 : decode cX1_isInTimePricked 33 = .ok (.aload_n 0, 1) := by decide +kernel
theorem dX1_isInTimePricked_34 : decode cX1_isInTimePricked 34 = .ok (.getfield 22, 3) := by decide +kernel
theorem dX1_isInTimePricked_37 : decode cX1_isInTimePricked 37 = .ok (.iload_n 3, 1) := by decide +kernel
theorem dX1_isInTimePricked_38 : decode cX1_isInTimePricked 38 = .ok (.invokevirtual 31, 3) := by decide +kernel
theorem dX1_isInTimePricked_41 : decode cX1_isInTimePricked 41 = .ok (.iinc 3 1, 3) := by decide +kernel
theorem dX1_isInTimePricked_44 : decode cX1_isInTimePricked 44 = .ok (.goto (-31), 3) := by decide +kernel
theorem dX1_isInTimePricked_47 : decode cX1_isInTimePricked 47 = .ok (.aload_n 0, 1) := by decide +kernel
theorem dX1_isInTimePricked_48 : decode cX1_isInTimePricked 48 = .ok (.getfield 22, 3) := by decide +kernel
theorem dX1_isInTimePricked_51 : decode cX1_isInTimePricked 51 = .ok (.iload_n 2, 1) := by decide +kernel
theorem dX1_isInTimePricked_52 : decode cX1_isInTimePricked 52 = .ok (.invokevirtual 70, 3) := by decide +kernel
theorem dX1_isInTimePricked_55 : decode cX1_isInTimePricked 55 = .ok (.bipush (-9), 2) := by decide +kernel
theorem dX1_isInTimePricked_57 : decode cX1_isInTimePricked 57 = .ok (.if_icmp .eq 7, 3) := by decide +kernel
theorem dX1_isInTimePricked_60 : decode cX1_isInTimePricked 60 = .ok (.iconst 1, 1) := by decide +kernel
theorem dX1_isInTimePricked_61 : decode cX1_isInTimePricked 61 = .ok (.goto 4, 3) := by decide +kernel
theorem dX1_isInTimePricked_64 : decode cX1_isInTimePricked 64 = .ok (.iconst 0, 1) := by decide +kernel
theorem dX1_isInTimePricked_65 : decode cX1_isInTimePricked 65 = .ok (.ireturn, 1) := by decide +kernel
theorem dX1_setOut_0 : decode cX1_setOut 0 = .ok (.aload_n 0, 1) := by decide +kernel
theorem dX1_setOut_1 : decode cX1_setOut 1 = .ok (.getfield 22, 3) := by decide +kernel
theorem dX1_setOut_4 : decode cX1_setOut 4 = .ok (.aload_n 0, 1) := by decide +kernel
theorem dX1_setOut_5 : decode cX1_setOut 5 = .ok (.getfield 18, 3) := by decide +kernel
theorem dX1_setOut_8 : decode cX1_setOut 8 = .ok (.invokevirtual 25, 3) := by decide +kernel
theorem dX1_setOut_11 : decode cX1_setOut 11 = .ok (.return_, 1) := by decide +kernel
theorem dX1_mileBehindLot_0 : decode cX1_mileBehindLot 0 = .ok (.iload_n 1, 1) := by decide +kernel
theorem dX1_mileBehindLot_1 : decode cX1_mileBehindLot 1 = .ok (.iconst 5, 1) := by decide +kernel
theorem dX1_mileBehindLot_2 : decode cX1_mileBehindLot 2 = .ok (.if_icmp .ge 14, 3) := by decide +kernel
theorem dX1_mileBehindLot_5 : decode cX1_mileBehindLot 5 = .ok (.aload_n 0, 1) := by decide +kernel
theorem dX1_mileBehindLot_6 : decode cX1_mileBehindLot 6 = .ok (.getfield 22, 3) := by decide +kernel
theorem dX1_mileBehindLot_9 : decode cX1_mileBehindLot 9 = .ok (.iload_n 1, 1) := by decide +kernel
theorem dX1_mileBehindLot_10 : decode cX1_mileBehindLot 10 = .ok (.invokevirtual 31, 3) := by decide +kernel
theorem dX1_mileBehindLot_13 : decode cX1_mileBehindLot 13 = .ok (.goto 46, 3) := by decide +kernel
theorem dX1_mileBehindLot_16 : decode cX1_mileBehindLot 16 = .ok (.iload_n 1, 1) := by decide +kernel
theorem dX1_mileBehindLot_17 : decode cX1_mileBehindLot 17 = .ok (.bipush 10, 2) := by decide +kernel
theorem dX1_mileBehindLot_19 : decode cX1_mileBehindLot 19 = .ok (.if_icmp .ge 16, 3) := by decide +kernel
theorem dX1_mileBehindLot_22 : decode cX1_mileBehindLot 22 = .ok (.aload_n 0, 1) := by decide +kernel
theorem dX1_mileBehindLot_23 : decode cX1_mileBehindLot 23 = .ok (.getfield 22, 3) := by decide +kernel
theorem dX1_mileBehindLot_26 : decode cX1_mileBehindLot 26 = .ok (.iload_n 1, 1) := by decide +kernel
theorem dX1_mileBehindLot_27 : decode cX1_mileBehindLot 27 = .ok (.iconst 5, 1) := by decide +kernel
theorem dX1_mileBehindLot_28 : decode cX1_mileBehindLot 28 = .ok (.isub, 1) := by decide +kernel
theorem dX1_mileBehindLot_29 : decode cX1_mileBehindLot 29 = .ok (.invokevirtual 73, 3) := by decide +kernel
theorem dX1_mileBehindLot_32 : decode cX1_mileBehindLot 32 = .ok (.goto 27, 3) := by decide +kernel
theorem dX1_mileBehindLot_35 : decode cX1_mileBehindLot 35 = .ok (.iload_n 1, 1) := by decide +kernel
theorem dX1_mileBehindLot_36 : decode cX1_mileBehindLot 36 = .ok (.bipush 10, 2) := by decide +kernel
theorem dX1_mileBehindLot_38 : decode cX1_mileBehindLot 38 = .ok (.if_icmp .ne 13, 3) := by decide +kernel
theorem dX1_mileBehindLot_41 : decode cX1_mileBehindLot 41 = .ok (.aload_n 0, 1) := by decide +kernel
theorem dX1_mileBehindLot_42 : decode cX1_mileBehindLot 42 = .ok (.getfield 22, 3) := by decide +kernel
theorem dX1_mileBehindLot_45 : decode cX1_mileBehindLot 45 = .ok (.invokevirtual 76, 3) := by decide +kernel
theorem dX1_mileBehindLot_48 : decode cX1_mileBehindLot 48 = .ok (.goto 11, 3) := by decide +kernel
theorem dX1_mileBehindLot_51 : decode cX1_mileBehindLot 51 = .ok (.aload_n 0, 1) := by decide +kernel
theorem dX1_mileBehindLot_52 : decode cX1_mileBehindLot 52 = .ok (.getfield 22, 3) := by decide +kernel
theorem dX1_mileBehindLot_55 : decode cX1_mileBehindLot 55 = .ok (.invokevirtual 79, 3) := by decide +kernel
theorem dX1_mileBehindLot_58 : decode cX1_mileBehindLot 58 = .ok (.pop, 1) := by decide +kernel
theorem dX1_mileBehindLot_59 : decode cX1_mileBehindLot 59 = .ok (.aload_n 0, 1) := by decide +kernel
theorem dX1_mileBehindLot_60 : decode cX1_mileBehindLot 60 = .ok (.getfield 22, 3) := by decide +kernel
theorem dX1_mileBehindLot_63 : decode cX1_mileBehindLot 63 = .ok (.invokevirtual 38, 3) := by decide +kernel
theorem dX1_mileBehindLot_66 : decode cX1_mileBehindLot 66 = .ok (.ireturn, 1) := by decide +kernel
theorem dX2_init_0 : decode cX2_init 0 = .ok (.aload_n 0, 1) := by decide +kernel
theorem dX2_init_1 : decode cX2_init 1 = .ok (.invokespecial 3, 3) := by decide +kernel
theorem dX2_init_4 : decode cX2_init 4 = .ok (.aload_n 0, 1) := by decide +kernel
theorem dX2_init_5 : decode cX2_init 5 = .ok (.iconst 5, 1) := by decide +kernel
theorem dX2_init_6 : decode cX2_init 6 = .ok (.newarray .int, 2) := by decide +kernel
theorem dX2_init_8 : decode cX2_init 8 = .ok (.putfield 9, 3) := by decide +kernel
theorem dX2_init_11 : decode cX2_init 11 = .ok (.aload_n 0, 1) := by decide +kernel
theorem dX2_init_12 : decode cX2_init 12 = .ok (.iconst (-1), 1) := by decide +kernel
theorem dX2_init_13 : decode cX2_init 13 = .ok (.putfield 15, 3) := by decide +kernel
theorem dX2_init_16 : decode cX2_init 16 = .ok (.aload_n 0, 1) := by decide +kernel
theorem dX2_init_17 : decode cX2_init 17 = .ok (.aload_n 1, 1) := by decide +kernel
theorem dX2_init_18 : decode cX2_init 18 = .ok (.putfield 19, 3) := by decide +kernel
theorem dX2_init_21 : decode cX2_init 21 = .ok (.aload_n 0, 1) := by decide +kernel
theorem dX2_init_22 : decode cX2_init 22 = .ok (.aload_n 2, 1) := by decide +kernel
theorem dX2_init_23 : decode cX2_init 23 = .ok (.putfield 23, 3) := by decide +kernel
theorem dX2_init_26 : decode cX2_init 26 = .ok (.return_, 1) := by decide +kernel
theorem dX2_mile_0 : decode cX2_mile 0 = .ok (.aload_n 0, 1) := by decide +kernel
theorem dX2_mile_1 : decode cX2_mile 1 = .ok (.getfield 27, 3) := by decide +kernel
theorem dX2_mile_4 : decode cX2_mile 4 = .ok (.ireturn, 1) := by decide +kernel
theorem dX2_dayNumber_0 : decode cX2_dayNumber 0 = .ok (.aload_n 0, 1) := by decide +kernel
theorem dX2_dayNumber_1 : decode cX2_dayNumber 1 = .ok (.getfield 30, 3) := by decide +kernel
theorem dX2_dayNumber_4 : decode cX2_dayNumber 4 = .ok (.ireturn, 1) := by decide +kernel
theorem dX2_end_0 : decode cX2_end 0 = .ok (.aload_n 0, 1) := by decide +kernel
theorem dX2_end_1 : decode cX2_end 1 = .ok (.getfield 19, 3) := by decide +kernel
theorem dX2_end_4 : decode cX2_end 4 = .ok (.invokevirtual 33, 3) := by decide +kernel
theorem dX2_end_7 : decode cX2_end 7 = .ok (.ireturn, 1) := by decide +kernel
theorem dX2_menCount_0 : decode cX2_menCount 0 = .ok (.aload_n 0, 1) := by decide +kernel
theorem dX2_menCount_1 : decode cX2_menCount 1 = .ok (.getfield 23, 3) := by decide +kernel
theorem dX2_menCount_4 : decode cX2_menCount 4 = .ok (.invokevirtual 39, 3) := by decide +kernel
theorem dX2_menCount_7 : decode cX2_menCount 7 = .ok (.ireturn, 1) := by decide +kernel
theorem dX2_isThere_0 : decode cX2_isThere 0 = .ok (.aload_n 0, 1) := by decide +kernel
theorem dX2_isThere_1 : decode cX2_isThere 1 = .ok (.getfield 27, 3) := by decide +kernel
theorem dX2_isThere_4 : decode cX2_isThere 4 = .ok (.aload_n 0, 1) := by decide +kernel
theorem dX2_isThere_5 : decode cX2_isThere 5 = .ok (.getfield 19, 3) := by decide +kernel
theorem dX2_isThere_8 : decode cX2_isThere 8 = .ok (.invokevirtual 33, 3) := by decide +kernel
theorem dX2_isThere_11 : decode cX2_isThere 11 = .ok (.if_icmp .lt 7, 3) := by decide +kernel
theorem dX2_isThere_14 : decode cX2_isThere 14 = .ok (.iconst 1, 1) := by decide +kernel
theorem dX2_isThere_15 : decode cX2_isThere 15 = .ok (.goto 4, 3) := by decide +kernel
theorem dX2_isThere_18 : decode cX2_isThere 18 = .ok (.iconst 0, 1) := by decide +kernel
theorem dX2_isThere_19 : decode cX2_isThere 19 = .ok (.ireturn, 1) := by decide +kernel
theorem dX2_begin_0 : decode cX2_begin 0 = .ok (.aload_n 0, 1) := by decide +kernel
theorem dX2_begin_1 : decode cX2_begin 1 = .ok (.iconst 0, 1) := by decide +kernel
theorem dX2_begin_2 : decode cX2_begin 2 = .ok (.putfield 27, 3) := by decide +kernel
theorem dX2_begin_5 : decode cX2_begin 5 = .ok (.aload_n 0, 1) := by decide +kernel
theorem dX2_begin_6 : decode cX2_begin 6 = .ok (.iconst 0, 1) := by decide +kernel
theorem dX2_begin_7 : decode cX2_begin 7 = .ok (.putfield 30, 3) := by decide +kernel
theorem dX2_begin_10 : decode cX2_begin 10 = .ok (.iconst 0, 1) := by decide +kernel
theorem dX2_begin_11 : decode cX2_begin 11 = .ok (.istore_n 1, 1) := by decide +kernel
theorem dX2_begin_12 : decode cX2_begin 12 = .ok (.iload_n 1, 1) := by decide +kernel
theorem dX2_begin_13 : decode cX2_begin 13 = .ok (.aload_n 0, 1) := by decide +kernel
theorem dX2_begin_14 : decode cX2_begin 14 = .ok (.getfield 9, 3) := by decide +kernel
theorem dX2_begin_17 : decode cX2_begin 17 = .ok (.arraylength, 1) := by decide +kernel
theorem dX2_begin_18 : decode cX2_begin 18 = .ok (.if_icmp .ge 23, 3) := by decide +kernel
theorem dX2_begin_21 : decode cX2_begin 21 = .ok (.aload_n 0, 1) := by decide +kernel
theorem dX2_begin_22 : decode cX2_begin 22 = .ok (.getfield 9, 3) := by decide +kernel
theorem dX2_begin_25 : decode cX2_begin 25 = .ok (.iload_n 1, 1) := by decide +kernel
theorem dX2_begin_26 : decode cX2_begin 26 = .ok (.aload_n 0, 1) := by decide +kernel
theorem dX2_begin_27 : decode cX2_begin 27 = .ok (.getfield 23, 3) := by decide +kernel
theorem dX2_begin_30 : decode cX2_begin 30 = .ok (.iload_n 1, 1) := by decide +kernel
theorem dX2_begin_31 : decode cX2_begin 31 = .ok (.invokevirtual 44, 3) := by decide +kernel
theorem dX2_begin_34 : decode cX2_begin 34 = .ok (.iastore, 1) := by decide +kernel
theorem dX2_begin_35 : decode cX2_begin 35 = .ok (.iinc 1 1, 3) := by decide +kernel
theorem dX2_begin_38 : decode cX2_begin 38 = .ok (.goto (-26), 3) := by decide +kernel
theorem dX2_begin_41 : decode cX2_begin 41 = .ok (.return_, 1) := by decide +kernel
theorem dX2_follow_0 : decode cX2_follow 0 = .ok (.aload_n 0, 1) := by decide +kernel
theorem dX2_follow_1 : decode cX2_follow 1 = .ok (.aload_n 1, 1) := by decide +kernel
theorem dX2_follow_2 : decode cX2_follow 2 = .ok (.getfield 27, 3) := by decide +kernel
theorem dX2_follow_5 : decode cX2_follow 5 = .ok (.putfield 27, 3) := by decide +kernel
theorem dX2_follow_8 : decode cX2_follow 8 = .ok (.aload_n 0, 1) := by decide +kernel
theorem dX2_follow_9 : decode cX2_follow 9 = .ok (.aload_n 1, 1) := by decide +kernel
theorem dX2_follow_10 : decode cX2_follow 10 = .ok (.getfield 30, 3) := by decide +kernel
theorem dX2_follow_13 : decode cX2_follow 13 = .ok (.putfield 30, 3) := by decide +kernel
theorem dX2_follow_16 : decode cX2_follow 16 = .ok (.aload_n 0, 1) := by decide +kernel
theorem dX2_follow_17 : decode cX2_follow 17 = .ok (.iconst (-1), 1) := by decide +kernel
theorem dX2_follow_18 : decode cX2_follow 18 = .ok (.putfield 15, 3) := by decide +kernel
theorem dX2_follow_21 : decode cX2_follow 21 = .ok (.iconst 0, 1) := by decide +kernel
theorem dX2_follow_22 : decode cX2_follow 22 = .ok (.istore_n 2, 1) := by decide +kernel
theorem dX2_follow_23 : decode cX2_follow 23 = .ok (.iload_n 2, 1) := by decide +kernel
theorem dX2_follow_24 : decode cX2_follow 24 = .ok (.aload_n 0, 1) := by decide +kernel
theorem dX2_follow_25 : decode cX2_follow 25 = .ok (.getfield 9, 3) := by decide +kernel
theorem dX2_follow_28 : decode cX2_follow 28 = .ok (.arraylength, 1) := by decide +kernel
theorem dX2_follow_29 : decode cX2_follow 29 = .ok (.if_icmp .ge 30, 3) := by decide +kernel
theorem dX2_follow_32 : decode cX2_follow 32 = .ok (.iload_n 2, 1) := by decide +kernel
theorem dX2_follow_33 : decode cX2_follow 33 = .ok (.aload_n 1, 1) := by decide +kernel
theorem dX2_follow_34 : decode cX2_follow 34 = .ok (.getfield 9, 3) := by decide +kernel
theorem dX2_follow_37 : decode cX2_follow 37 = .ok (.arraylength, 1) := by decide +kernel
theorem dX2_follow_38 : decode cX2_follow 38 = .ok (.if_icmp .ge 21, 3) := by decide +kernel
theorem dX2_follow_41 : decode cX2_follow 41 = .ok (.aload_n 0, 1) := by decide +kernel
theorem dX2_follow_42 : decode cX2_follow 42 = .ok (.getfield 9, 3) := by decide +kernel
theorem dX2_follow_45 : decode cX2_follow 45 = .ok (.iload_n 2, 1) := by decide +kernel
theorem dX2_follow_46 : decode cX2_follow 46 = .ok (.aload_n 1, 1) := by decide +kernel
theorem dX2_follow_47 : decode cX2_follow 47 = .ok (.getfield 9, 3) := by decide +kernel
theorem dX2_follow_50 : decode cX2_follow 50 = .ok (.iload_n 2, 1) := by decide +kernel
theorem dX2_follow_51 : decode cX2_follow 51 = .ok (.iaload, 1) := by decide +kernel
theorem dX2_follow_52 : decode cX2_follow 52 = .ok (.iastore, 1) := by decide +kernel
theorem dX2_follow_53 : decode cX2_follow 53 = .ok (.iinc 2 1, 3) := by decide +kernel
theorem dX2_follow_56 : decode cX2_follow 56 = .ok (.goto (-33), 3) := by decide +kernel
theorem dX2_follow_59 : decode cX2_follow 59 = .ok (.return_, 1) := by decide +kernel
theorem dX2_followWith_0 : decode cX2_followWith 0 = .ok (.aload_n 0, 1) := by decide +kernel
theorem dX2_followWith_1 : decode cX2_followWith 1 = .ok (.aload_n 1, 1) := by decide +kernel
theorem dX2_followWith_2 : decode cX2_followWith 2 = .ok (.invokevirtual 48, 3) := by decide +kernel
theorem dX2_followWith_5 : decode cX2_followWith 5 = .ok (.aload_n 0, 1) := by decide +kernel
theorem dX2_followWith_6 : decode cX2_followWith 6 = .ok (.iload_n 2, 1) := by decide +kernel
theorem dX2_followWith_7 : decode cX2_followWith 7 = .ok (.putfield 15, 3) := by decide +kernel
theorem dX2_followWith_10 : decode cX2_followWith 10 = .ok (.return_, 1) := by decide +kernel
theorem dX2_packed_0 : decode cX2_packed 0 = .ok (.aload_n 0, 1) := by decide +kernel
theorem dX2_packed_1 : decode cX2_packed 1 = .ok (.getfield 30, 3) := by decide +kernel
theorem dX2_packed_4 : decode cX2_packed 4 = .ok (.i2l, 1) := by decide +kernel
theorem dX2_packed_5 : decode cX2_packed 5 = .ok (.lstore_n 1, 1) := by decide +kernel
theorem dX2_packed_6 : decode cX2_packed 6 = .ok (.lload_n 1, 1) := by decide +kernel
theorem dX2_packed_7 : decode cX2_packed 7 = .ok (.bipush 8, 2) := by decide +kernel
theorem dX2_packed_9 : decode cX2_packed 9 = .ok (.lshl, 1) := by decide +kernel
theorem dX2_packed_10 : decode cX2_packed 10 = .ok (.aload_n 0, 1) := by decide +kernel
theorem dX2_packed_11 : decode cX2_packed 11 = .ok (.getfield 27, 3) := by decide +kernel
theorem dX2_packed_14 : decode cX2_packed 14 = .ok (.i2l, 1) := by decide +kernel
theorem dX2_packed_15 : decode cX2_packed 15 = .ok (.lor, 1) := by decide +kernel
theorem dX2_packed_16 : decode cX2_packed 16 = .ok (.lstore_n 1, 1) := by decide +kernel
theorem dX2_packed_17 : decode cX2_packed 17 = .ok (.iconst 0, 1) := by decide +kernel
theorem dX2_packed_18 : decode cX2_packed 18 = .ok (.istore_n 3, 1) := by decide +kernel
theorem dX2_packed_19 : decode cX2_packed 19 = .ok (.iload_n 3, 1) := by decide +kernel
theorem dX2_packed_20 : decode cX2_packed 20 = .ok (.aload_n 0, 1) := by decide +kernel
theorem dX2_packed_21 : decode cX2_packed 21 = .ok (.getfield 9, 3) := by decide +kernel
theorem dX2_packed_24 : decode cX2_packed 24 = .ok (.arraylength, 1) := by decide +kernel
theorem dX2_packed_25 : decode cX2_packed 25 = .ok (.if_icmp .ge 21, 3) := by decide +kernel
theorem dX2_packed_28 : decode cX2_packed 28 = .ok (.lload_n 1, 1) := by decide +kernel
theorem dX2_packed_29 : decode cX2_packed 29 = .ok (.iconst 4, 1) := by decide +kernel
theorem dX2_packed_30 : decode cX2_packed 30 = .ok (.lshl, 1) := by decide +kernel
theorem dX2_packed_31 : decode cX2_packed 31 = .ok (.aload_n 0, 1) := by decide +kernel
theorem dX2_packed_32 : decode cX2_packed 32 = .ok (.getfield 9, 3) := by decide +kernel
theorem dX2_packed_35 : decode cX2_packed 35 = .ok (.iload_n 3, 1) := by decide +kernel
theorem dX2_packed_36 : decode cX2_packed 36 = .ok (.iaload, 1) := by decide +kernel
theorem dX2_packed_37 : decode cX2_packed 37 = .ok (.i2l, 1) := by decide +kernel
theorem dX2_packed_38 : decode cX2_packed 38 = .ok (.lor, 1) := by decide +kernel
theorem dX2_packed_39 : decode cX2_packed 39 = .ok (.lstore_n 1, 1) := by decide +kernel
theorem dX2_packed_40 : decode cX2_packed 40 = .ok (.iinc 3 1, 3) := by decide +kernel
theorem dX2_packed_43 : decode cX2_packed 43 = .ok (.goto (-24), 3) := by decide +kernel
theorem dX2_packed_46 : decode cX2_packed 46 = .ok (.lload_n 1, 1) := by decide +kernel
theorem dX2_packed_47 : decode cX2_packed 47 = .ok (.lreturn, 1) := by decide +kernel
theorem dX2_unpack_0 : decode cX2_unpack 0 = .ok (.lload_n 1, 1) := by decide +kernel
theorem dX2_unpack_1 : decode cX2_unpack 1 = .ok (.lstore_n 3, 1) := by decide +kernel
theorem dX2_unpack_2 : decode cX2_unpack 2 = .ok (.aload_n 0, 1) := by decide +kernel
theorem dX2_unpack_3 : decode cX2_unpack 3 = .ok (.getfield 9, 3) := by decide +kernel
theorem dX2_unpack_6 : decode cX2_unpack 6 = .ok (.arraylength, 1) := by decide +kernel
theorem dX2_unpack_7 : decode cX2_unpack 7 = .ok (.iconst 1, 1) := by decide +kernel
theorem dX2_unpack_8 : decode cX2_unpack 8 = .ok (.isub, 1) := by decide +kernel
theorem dX2_unpack_9 : decode cX2_unpack 9 = .ok (.istore 5, 2) := by decide +kernel
theorem dX2_unpack_11 : decode cX2_unpack 11 = .ok (.iload 5, 2) := by decide +kernel
theorem dX2_unpack_13 : decode cX2_unpack 13 = .ok (.ifCond .lt 26, 3) := by decide +kernel
theorem dX2_unpack_16 : decode cX2_unpack 16 = .ok (.aload_n 0, 1) := by decide +kernel
theorem dX2_unpack_17 : decode cX2_unpack 17 = .ok (.getfield 9, 3) := by decide +kernel
theorem dX2_unpack_20 : decode cX2_unpack 20 = .ok (.iload 5, 2) := by decide +kernel
theorem dX2_unpack_22 : decode cX2_unpack 22 = .ok (.lload_n 3, 1) := by decide +kernel
theorem dX2_unpack_23 : decode cX2_unpack 23 = .ok (.ldc2_w 52, 3) := by decide +kernel
theorem dX2_unpack_26 : decode cX2_unpack 26 = .ok (.land, 1) := by decide +kernel
theorem dX2_unpack_27 : decode cX2_unpack 27 = .ok (.l2i, 1) := by decide +kernel
theorem dX2_unpack_28 : decode cX2_unpack 28 = .ok (.iastore, 1) := by decide +kernel
theorem dX2_unpack_29 : decode cX2_unpack 29 = .ok (.lload_n 3, 1) := by decide +kernel
theorem dX2_unpack_30 : decode cX2_unpack 30 = .ok (.iconst 4, 1) := by decide +kernel
theorem dX2_unpack_31 : decode cX2_unpack 31 = .ok (.lushr, 1) := by decide +kernel
theorem dX2_unpack_32 : decode cX2_unpack 32 = .ok (.lstore_n 3, 1) := by decide +kernel
theorem dX2_unpack_33 : decode cX2_unpack 33 = .ok (.iinc 5 (-1), 3) := by decide +kernel
theorem dX2_unpack_36 : decode cX2_unpack 36 = .ok (.goto (-25), 3) := by decide +kernel
theorem dX2_unpack_39 : decode cX2_unpack 39 = .ok (.aload_n 0, 1) := by decide +kernel
theorem dX2_unpack_40 : decode cX2_unpack 40 = .ok (.lload_n 3, 1) := by decide +kernel
theorem dX2_unpack_41 : decode cX2_unpack 41 = .ok (.ldc2_w 54, 3) := by decide +kernel
theorem dX2_unpack_44 : decode cX2_unpack 44 = .ok (.land, 1) := by decide +kernel
theorem dX2_unpack_45 : decode cX2_unpack 45 = .ok (.l2i, 1) := by decide +kernel
theorem dX2_unpack_46 : decode cX2_unpack 46 = .ok (.putfield 27, 3) := by decide +kernel
theorem dX2_unpack_49 : decode cX2_unpack 49 = .ok (.aload_n 0, 1) := by decide +kernel
theorem dX2_unpack_50 : decode cX2_unpack 50 = .ok (.lload_n 3, 1) := by decide +kernel
theorem dX2_unpack_51 : decode cX2_unpack 51 = .ok (.bipush 8, 2) := by decide +kernel
theorem dX2_unpack_53 : decode cX2_unpack 53 = .ok (.lushr, 1) := by decide +kernel
theorem dX2_unpack_54 : decode cX2_unpack 54 = .ok (.l2i, 1) := by decide +kernel
theorem dX2_unpack_55 : decode cX2_unpack 55 = .ok (.putfield 30, 3) := by decide +kernel
theorem dX2_unpack_58 : decode cX2_unpack 58 = .ok (.return_, 1) := by decide +kernel
theorem dX2_thornsOf_0 : decode cX2_thornsOf 0 = .ok (.iload_n 1, 1) := by decide +kernel
theorem dX2_thornsOf_1 : decode cX2_thornsOf 1 = .ok (.ifCond .lt 21, 3) := by decide +kernel
theorem dX2_thornsOf_4 : decode cX2_thornsOf 4 = .ok (.iload_n 1, 1) := by decide +kernel
theorem dX2_thornsOf_5 : decode cX2_thornsOf 5 = .ok (.aload_n 0, 1) := by decide +kernel
theorem dX2_thornsOf_6 : decode cX2_thornsOf 6 = .ok (.getfield 9, 3) := by decide +kernel
theorem dX2_thornsOf_9 : decode cX2_thornsOf 9 = .ok (.arraylength, 1) := by decide +kernel
theorem dX2_thornsOf_10 : decode cX2_thornsOf 10 = .ok (.if_icmp .ge 12, 3) := by decide +kernel
theorem dX2_thornsOf_13 : decode cX2_thornsOf 13 = .ok (.aload_n 0, 1) := by decide +kernel
theorem dX2_thornsOf_14 : decode cX2_thornsOf 14 = .ok (.getfield 9, 3) := by decide +kernel
theorem dX2_thornsOf_17 : decode cX2_thornsOf 17 = .ok (.iload_n 1, 1) := by decide +kernel
theorem dX2_thornsOf_18 : decode cX2_thornsOf 18 = .ok (.iaload, 1) := by decide +kernel
theorem dX2_thornsOf_19 : decode cX2_thornsOf 19 = .ok (.goto 4, 3) := by decide +kernel
theorem dX2_thornsOf_22 : decode cX2_thornsOf 22 = .ok (.iconst 0, 1) := by decide +kernel
theorem dX2_thornsOf_23 : decode cX2_thornsOf 23 = .ok (.ireturn, 1) := by decide +kernel
theorem dX2_allThorns_0 : decode cX2_allThorns 0 = .ok (.iconst 0, 1) := by decide +kernel
theorem dX2_allThorns_1 : decode cX2_allThorns 1 = .ok (.istore_n 1, 1) := by decide +kernel
theorem dX2_allThorns_2 : decode cX2_allThorns 2 = .ok (.iconst 0, 1) := by decide +kernel
theorem dX2_allThorns_3 : decode cX2_allThorns 3 = .ok (.istore_n 2, 1) := by decide +kernel
theorem dX2_allThorns_4 : decode cX2_allThorns 4 = .ok (.iload_n 2, 1) := by decide +kernel
theorem dX2_allThorns_5 : decode cX2_allThorns 5 = .ok (.aload_n 0, 1) := by decide +kernel
theorem dX2_allThorns_6 : decode cX2_allThorns 6 = .ok (.getfield 9, 3) := by decide +kernel
theorem dX2_allThorns_9 : decode cX2_allThorns 9 = .ok (.arraylength, 1) := by decide +kernel
theorem dX2_allThorns_10 : decode cX2_allThorns 10 = .ok (.if_icmp .ge 18, 3) := by decide +kernel
theorem dX2_allThorns_13 : decode cX2_allThorns 13 = .ok (.iload_n 1, 1) := by decide +kernel
theorem dX2_allThorns_14 : decode cX2_allThorns 14 = .ok (.aload_n 0, 1) := by decide +kernel
theorem dX2_allThorns_15 : decode cX2_allThorns 15 = .ok (.getfield 9, 3) := by decide +kernel
theorem dX2_allThorns_18 : decode cX2_allThorns 18 = .ok (.iload_n 2, 1) := by decide +kernel
theorem dX2_allThorns_19 : decode cX2_allThorns 19 = .ok (.iaload, 1) := by decide +kernel
theorem dX2_allThorns_20 : decode cX2_allThorns 20 = .ok (.iadd, 1) := by decide +kernel
theorem dX2_allThorns_21 : decode cX2_allThorns 21 = .ok (.istore_n 1, 1) := by decide +kernel
theorem dX2_allThorns_22 : decode cX2_allThorns 22 = .ok (.iinc 2 1, 3) := by decide +kernel
theorem dX2_allThorns_25 : decode cX2_allThorns 25 = .ok (.goto (-21), 3) := by decide +kernel
theorem dX2_allThorns_28 : decode cX2_allThorns 28 = .ok (.iload_n 1, 1) := by decide +kernel
theorem dX2_allThorns_29 : decode cX2_allThorns 29 = .ok (.ireturn, 1) := by decide +kernel
theorem dX2_speedOf_0 : decode cX2_speedOf 0 = .ok (.aload_n 0, 1) := by decide +kernel
theorem dX2_speedOf_1 : decode cX2_speedOf 1 = .ok (.getfield 23, 3) := by decide +kernel
theorem dX2_speedOf_4 : decode cX2_speedOf 4 = .ok (.iload_n 1, 1) := by decide +kernel
theorem dX2_speedOf_5 : decode cX2_speedOf 5 = .ok (.invokevirtual 56, 3) := by decide +kernel
theorem dX2_speedOf_8 : decode cX2_speedOf 8 = .ok (.aload_n 0, 1) := by decide +kernel
theorem dX2_speedOf_9 : decode cX2_speedOf 9 = .ok (.getfield 23, 3) := by decide +kernel
theorem dX2_speedOf_12 : decode cX2_speedOf 12 = .ok (.iload_n 1, 1) := by decide +kernel
theorem dX2_speedOf_13 : decode cX2_speedOf 13 = .ok (.invokevirtual 59, 3) := by decide +kernel
theorem dX2_speedOf_16 : decode cX2_speedOf 16 = .ok (.aload_n 0, 1) := by decide +kernel
theorem dX2_speedOf_17 : decode cX2_speedOf 17 = .ok (.iload_n 1, 1) := by decide +kernel
theorem dX2_speedOf_18 : decode cX2_speedOf 18 = .ok (.invokevirtual 62, 3) := by decide +kernel
theorem dX2_speedOf_21 : decode cX2_speedOf 21 = .ok (.invokestatic 65, 3) := by decide +kernel
theorem dX2_speedOf_24 : decode cX2_speedOf 24 = .ok (.ireturn, 1) := by decide +kernel
theorem dX2_leader_0 : decode cX2_leader 0 = .ok (.bipush (-9), 2) := by decide +kernel
theorem dX2_leader_2 : decode cX2_leader 2 = .ok (.istore_n 1, 1) := by decide +kernel
theorem dX2_leader_3 : decode cX2_leader 3 = .ok (.iconst 0, 1) := by decide +kernel
theorem dX2_leader_4 : decode cX2_leader 4 = .ok (.istore_n 2, 1) := by decide +kernel
theorem dX2_leader_5 : decode cX2_leader 5 = .ok (.aload_n 0, 1) := by decide +kernel
theorem dX2_leader_6 : decode cX2_leader 6 = .ok (.getfield 23, 3) := by decide +kernel
theorem dX2_leader_9 : decode cX2_leader 9 = .ok (.invokevirtual 39, 3) := by decide +kernel
theorem dX2_leader_12 : decode cX2_leader 12 = .ok (.istore_n 3, 1) := by decide +kernel
theorem dX2_leader_13 : decode cX2_leader 13 = .ok (.iconst 0, 1) := by decide +kernel
theorem dX2_leader_14 : decode cX2_leader 14 = .ok (.istore 4, 2) := by decide +kernel
theorem dX2_leader_16 : decode cX2_leader 16 = .ok (.iload 4, 2) := by decide +kernel
theorem dX2_leader_18 : decode cX2_leader 18 = .ok (.iload_n 3, 1) := by decide +kernel
theorem dX2_leader_19 : decode cX2_leader 19 = .ok (.if_icmp .ge 80, 3) := by decide +kernel
theorem dX2_leader_22 : decode cX2_leader 22 = .ok (.iload 4, 2) := by decide +kernel
theorem dX2_leader_24 : decode cX2_leader 24 = .ok (.aload_n 0, 1) := by decide +kernel
theorem dX2_leader_25 : decode cX2_leader 25 = .ok (.getfield 9, 3) := by decide +kernel
theorem dX2_leader_28 : decode cX2_leader 28 = .ok (.arraylength, 1) := by decide +kernel
theorem dX2_leader_29 : decode cX2_leader 29 = .ok (.if_icmp .ge 70, 3) := by decide +kernel
theorem dX2_leader_32 : decode cX2_leader 32 = .ok (.aload_n 0, 1) := by decide +kernel
theorem dX2_leader_33 : decode cX2_leader 33 = .ok (.getfield 15, 3) := by decide +kernel
theorem dX2_leader_36 : decode cX2_leader 36 = .ok (.iload 4, 2) := by decide +kernel
theorem dX2_leader_38 : decode cX2_leader 38 = .ok (.ishr, 1) := by decide +kernel
theorem dX2_leader_39 : decode cX2_leader 39 = .ok (.iconst 1, 1) := by decide +kernel
theorem dX2_leader_40 : decode cX2_leader 40 = .ok (.iand, 1) := by decide +kernel
theorem dX2_leader_41 : decode cX2_leader 41 = .ok (.iconst 1, 1) := by decide +kernel
theorem dX2_leader_42 : decode cX2_leader 42 = .ok (.if_icmp .ne 51, 3) := by decide +kernel
theorem dX2_leader_45 : decode cX2_leader 45 = .ok (.aload_n 0, 1) := by decide +kernel
theorem dX2_leader_46 : decode cX2_leader 46 = .ok (.getfield 23, 3) := by decide +kernel
theorem dX2_leader_49 : decode cX2_leader 49 = .ok (.iload 4, 2) := by decide +kernel
theorem dX2_leader_51 : decode cX2_leader 51 = .ok (.invokevirtual 56, 3) := by decide +kernel
theorem dX2_leader_54 : decode cX2_leader 54 = .ok (.aload_n 0, 1) := by decide +kernel
theorem dX2_leader_55 : decode cX2_leader 55 = .ok (.getfield 23, 3) := by decide +kernel
theorem dX2_leader_58 : decode cX2_leader 58 = .ok (.iload 4, 2) := by decide +kernel
theorem dX2_leader_60 : decode cX2_leader 60 = .ok (.invokevirtual 59, 3) := by decide +kernel
theorem dX2_leader_63 : decode cX2_leader 63 = .ok (.aload_n 0, 1) := by decide +kernel
theorem dX2_leader_64 : decode cX2_leader 64 = .ok (.getfield 9, 3) := by decide +kernel
theorem dX2_leader_67 : decode cX2_leader 67 = .ok (.iload 4, 2) := by decide +kernel
theorem dX2_leader_69 : decode cX2_leader 69 = .ok (.iaload, 1) := by decide +kernel
theorem dX2_leader_70 : decode cX2_leader 70 = .ok (.invokestatic 65, 3) := by decide +kernel
theorem dX2_leader_73 : decode cX2_leader 73 = .ok (.istore 5, 2) := by decide +kernel
theorem dX2_leader_75 : decode cX2_leader 75 = .ok (.iload_n 1, 1) := by decide +kernel
theorem dX2_leader_76 : decode cX2_leader 76 = .ok (.bipush (-9), 2) := by decide +kernel
theorem dX2_leader_78 : decode cX2_leader 78 = .ok (.if_icmp .eq 9, 3) := by decide +kernel
theorem dX2_leader_81 : decode cX2_leader 81 = .ok (.iload 5, 2) := by decide +kernel
theorem dX2_leader_83 : decode cX2_leader 83 = .ok (.iload_n 2, 1) := by decide +kernel
theorem dX2_leader_84 : decode cX2_leader 84 = .ok (.if_icmp .ge 9, 3) := by decide +kernel
theorem dX2_leader_87 : decode cX2_leader 87 = .ok (.iload 4, 2) := by decide +kernel
theorem dX2_leader_89 : decode cX2_leader 89 = .ok (.istore_n 1, 1) := by decide +kernel
theorem dX2_leader_90 : decode cX2_leader 90 = .ok (.iload 5, 2) := by decide +kernel
theorem dX2_leader_92 : decode cX2_leader 92 = .ok (.istore_n 2, 1) := by decide +kernel
theorem dX2_leader_93 : decode cX2_leader 93 = .ok (.iinc 4 1, 3) := by decide +kernel
theorem dX2_leader_96 : decode cX2_leader 96 = .ok (.goto (-80), 3) := by decide +kernel
theorem dX2_leader_99 : decode cX2_leader 99 = .ok (.iload_n 1, 1) := by decide +kernel
theorem dX2_leader_100 : decode cX2_leader 100 = .ok (.ireturn, 1) := by decide +kernel
theorem dX2_leaderSpeed_0 : decode cX2_leaderSpeed 0 = .ok (.aload_n 0, 1) := by decide +kernel
theorem dX2_leaderSpeed_1 : decode cX2_leaderSpeed 1 = .ok (.invokevirtual 69, 3) := by decide +kernel
theorem dX2_leaderSpeed_4 : decode cX2_leaderSpeed 4 = .ok (.istore_n 1, 1) := by decide +kernel
theorem dX2_leaderSpeed_5 : decode cX2_leaderSpeed 5 = .ok (.iload_n 1, 1) := by decide +kernel
theorem dX2_leaderSpeed_6 : decode cX2_leaderSpeed 6 = .ok (.bipush (-9), 2) := by decide +kernel
theorem dX2_leaderSpeed_8 : decode cX2_leaderSpeed 8 = .ok (.if_icmp .ne 7, 3) := by decide +kernel
theorem dX2_leaderSpeed_11 : decode cX2_leaderSpeed 11 = .ok (.iconst 0, 1) := by decide +kernel
theorem dX2_leaderSpeed_12 : decode cX2_leaderSpeed 12 = .ok (.goto 8, 3) := by decide +kernel
theorem dX2_leaderSpeed_15 : decode cX2_leaderSpeed 15 = .ok (.aload_n 0, 1) := by decide +kernel
theorem dX2_leaderSpeed_16 : decode cX2_leaderSpeed 16 = .ok (.iload_n 1, 1) := by decide +kernel
theorem dX2_leaderSpeed_17 : decode cX2_leaderSpeed 17 = .ok (.invokevirtual 72, 3) := by decide +kernel
theorem dX2_leaderSpeed_20 : decode cX2_leaderSpeed 20 = .ok (.ireturn, 1) := by decide +kernel
theorem dX2_canPrick_0 : decode cX2_canPrick 0 = .ok (.aload_n 0, 1) := by decide +kernel
theorem dX2_canPrick_1 : decode cX2_canPrick 1 = .ok (.getfield 23, 3) := by decide +kernel
theorem dX2_canPrick_4 : decode cX2_canPrick 4 = .ok (.iload_n 1, 1) := by decide +kernel
theorem dX2_canPrick_5 : decode cX2_canPrick 5 = .ok (.invokevirtual 75, 3) := by decide +kernel
theorem dX2_canPrick_8 : decode cX2_canPrick 8 = .ok (.ifCond .eq 17, 3) := by decide +kernel
theorem dX2_canPrick_11 : decode cX2_canPrick 11 = .ok (.aload_n 0, 1) := by decide +kernel
theorem dX2_canPrick_12 : decode cX2_canPrick 12 = .ok (.iload_n 1, 1) := by decide +kernel
theorem dX2_canPrick_13 : decode cX2_canPrick 13 = .ok (.invokevirtual 62, 3) := by decide +kernel
theorem dX2_canPrick_16 : decode cX2_canPrick 16 = .ok (.bipush 9, 2) := by decide +kernel
theorem dX2_canPrick_18 : decode cX2_canPrick 18 = .ok (.if_icmp .ge 7, 3) := by decide +kernel
theorem dX2_canPrick_21 : decode cX2_canPrick 21 = .ok (.iconst 1, 1) := by decide +kernel
theorem dX2_canPrick_22 : decode cX2_canPrick 22 = .ok (.goto 4, 3) := by decide +kernel
theorem dX2_canPrick_25 : decode cX2_canPrick 25 = .ok (.iconst 0, 1) := by decide +kernel
theorem dX2_canPrick_26 : decode cX2_canPrick 26 = .ok (.ireturn, 1) := by decide +kernel
theorem dX2_prick_0 : decode cX2_prick 0 = .ok (.aload_n 0, 1) := by decide +kernel
theorem dX2_prick_1 : decode cX2_prick 1 = .ok (.getfield 23, 3) := by decide +kernel
theorem dX2_prick_4 : decode cX2_prick 4 = .ok (.iload_n 1, 1) := by decide +kernel
