theorem dX8_init_12 : decode cX8_init 12 = .ok (.putfield 10, 3) := by decide +kernel
theorem dX8_init_15 : decode cX8_init 15 = .ok (.aload_n 0, 1) := by decide +kernel
theorem dX8_init_16 : decode cX8_init 16 = .ok (.new 16, 3) := by decide +kernel
theorem dX8_init_19 : decode cX8_init 19 = .ok (.dup, 1) := by decide +kernel
theorem dX8_init_20 : decode cX8_init 20 = .ok (.invokespecial 18, 3) := by decide +kernel
theorem dX8_init_23 : decode cX8_init 23 = .ok (.putfield 19, 3) := by decide +kernel
theorem dX8_init_26 : decode cX8_init 26 = .ok (.aload_n 0, 1) := by decide +kernel
theorem dX8_init_27 : decode cX8_init 27 = .ok (.new 23, 3) := by decide +kernel
theorem dX8_init_30 : decode cX8_init 30 = .ok (.dup, 1) := by decide +kernel
theorem dX8_init_31 : decode cX8_init 31 = .ok (.invokespecial 25, 3) := by decide +kernel
theorem dX8_init_34 : decode cX8_init 34 = .ok (.putfield 26, 3) := by decide +kernel
theorem dX8_init_37 : decode cX8_init 37 = .ok (.aload_n 0, 1) := by decide +kernel
theorem dX8_init_38 : decode cX8_init 38 = .ok (.new 30, 3) := by decide +kernel
theorem dX8_init_41 : decode cX8_init 41 = .ok (.dup, 1) := by decide +kernel
theorem dX8_init_42 : decode cX8_init 42 = .ok (.aload_n 0, 1) := by decide +kernel
theorem dX8_init_43 : decode cX8_init 43 = .ok (.getfield 19, 3) := by decide +kernel
theorem dX8_init_46 : decode cX8_init 46 = .ok (.aload_n 0, 1) := by decide +kernel
theorem dX8_init_47 : decode cX8_init 47 = .ok (.getfield 26, 3) := by decide +kernel
theorem dX8_init_50 : decode cX8_init 50 = .ok (.invokespecial 32, 3) := by decide +kernel
theorem dX8_init_53 : decode cX8_init 53 = .ok (.putfield 35, 3) := by decide +kernel
theorem dX8_init_56 : decode cX8_init 56 = .ok (.aload_n 0, 1) := by decide +kernel
theorem dX8_init_57 : decode cX8_init 57 = .ok (.new 39, 3) := by decide +kernel
theorem dX8_init_60 : decode cX8_init 60 = .ok (.dup, 1) := by decide +kernel
theorem dX8_init_61 : decode cX8_init 61 = .ok (.invokespecial 41, 3) := by decide +kernel
theorem dX8_init_64 : decode cX8_init 64 = .ok (.putfield 42, 3) := by decide +kernel
theorem dX8_init_67 : decode cX8_init 67 = .ok (.aload_n 0, 1) := by decide +kernel
theorem dX8_init_68 : decode cX8_init 68 = .ok (.new 46, 3) := by decide +kernel
theorem dX8_init_71 : decode cX8_init 71 = .ok (.dup, 1) := by decide +kernel
theorem dX8_init_72 : decode cX8_init 72 = .ok (.aload_n 0, 1) := by decide +kernel
theorem dX8_init_73 : decode cX8_init 73 = .ok (.getfield 35, 3) := by decide +kernel
theorem dX8_init_76 : decode cX8_init 76 = .ok (.new 30, 3) := by decide +kernel
theorem dX8_init_79 : decode cX8_init 79 = .ok (.dup, 1) := by decide +kernel
theorem dX8_init_80 : decode cX8_init 80 = .ok (.aload_n 0, 1) := by decide +kernel
theorem dX8_init_81 : decode cX8_init 81 = .ok (.getfield 19, 3) := by decide +kernel
theorem dX8_init_84 : decode cX8_init 84 = .ok (.aload_n 0, 1) := by decide +kernel
theorem dX8_init_85 : decode cX8_init 85 = .ok (.getfield 26, 3) := by decide +kernel
theorem dX8_init_88 : decode cX8_init 88 = .ok (.invokespecial 32, 3) := by decide +kernel
theorem dX8_init_91 : decode cX8_init 91 = .ok (.invokespecial 48, 3) := by decide +kernel
theorem dX8_init_94 : decode cX8_init 94 = .ok (.putfield 51, 3) := by decide +kernel
theorem dX8_init_97 : decode cX8_init 97 = .ok (.aload_n 0, 1) := by decide +kernel
theorem dX8_init_98 : decode cX8_init 98 = .ok (.new 55, 3) := by decide +kernel
theorem dX8_init_101 : decode cX8_init 101 = .ok (.dup, 1) := by decide +kernel
theorem dX8_init_102 : decode cX8_init 102 = .ok (.aload_n 0, 1) := by decide +kernel
theorem dX8_init_103 : decode cX8_init 103 = .ok (.getfield 35, 3) := by decide +kernel
theorem dX8_init_106 : decode cX8_init 106 = .ok (.new 30, 3) := by decide +kernel
theorem dX8_init_109 : decode cX8_init 109 = .ok (.dup, 1) := by decide +kernel
theorem dX8_init_110 : decode cX8_init 110 = .ok (.aload_n 0, 1) := by decide +kernel
theorem dX8_init_111 : decode cX8_init 111 = .ok (.getfield 19, 3) := by decide +kernel
theorem dX8_init_114 : decode cX8_init 114 = .ok (.aload_n 0, 1) := by decide +kernel
theorem dX8_init_115 : decode cX8_init 115 = .ok (.getfield 26, 3) := by decide +kernel
theorem dX8_init_118 : decode cX8_init 118 = .ok (.invokespecial 32, 3) := by decide +kernel
theorem dX8_init_121 : decode cX8_init 121 = .ok (.invokespecial 57, 3) := by decide +kernel
theorem dX8_init_124 : decode cX8_init 124 = .ok (.putfield 58, 3) := by decide +kernel
theorem dX8_init_127 : decode cX8_init 127 = .ok (.aload_n 0, 1) := by decide +kernel
theorem dX8_init_128 : decode cX8_init 128 = .ok (.new 62, 3) := by decide +kernel
theorem dX8_init_131 : decode cX8_init 131 = .ok (.dup, 1) := by decide +kernel
theorem dX8_init_132 : decode cX8_init 132 = .ok (.invokespecial 64, 3) := by decide +kernel
theorem dX8_init_135 : decode cX8_init 135 = .ok (.putfield 65, 3) := by decide +kernel
theorem dX8_init_138 : decode cX8_init 138 = .ok (.aload_n 0, 1) := by decide +kernel
theorem dX8_init_139 : decode cX8_init 139 = .ok (.iconst 2, 1) := by decide +kernel
theorem dX8_init_140 : decode cX8_init 140 = .ok (.newarray .long, 2) := by decide +kernel
theorem dX8_init_142 : decode cX8_init 142 = .ok (.dup, 1) := by decide +kernel
theorem dX8_init_143 : decode cX8_init 143 = .ok (.iconst 0, 1) := by decide +kernel
theorem dX8_init_144 : decode cX8_init 144 = .ok (.ldc2_w 69, 3) := by decide +kernel
theorem dX8_init_147 : decode cX8_init 147 = .ok (.lastore, 1) := by decide +kernel
theorem dX8_init_148 : decode cX8_init 148 = .ok (.dup, 1) := by decide +kernel
theorem dX8_init_149 : decode cX8_init 149 = .ok (.iconst 1, 1) := by decide +kernel
theorem dX8_init_150 : decode cX8_init 150 = .ok (.ldc2_w 69, 3) := by decide +kernel
theorem dX8_init_153 : decode cX8_init 153 = .ok (.lastore, 1) := by decide +kernel
theorem dX8_init_154 : decode cX8_init 154 = .ok (.putfield 71, 3) := by decide +kernel
theorem dX8_init_157 : decode cX8_init 157 = .ok (.aload_n 0, 1) := by decide +kernel
theorem dX8_init_158 : decode cX8_init 158 = .ok (.lconst 0, 1) := by decide +kernel
theorem dX8_init_159 : decode cX8_init 159 = .ok (.putfield 75, 3) := by decide +kernel
theorem dX8_init_162 : decode cX8_init 162 = .ok (.return_, 1) := by decide +kernel
theorem dX8_write_0 : decode cX8_write 0 = .ok (.iload_n 1, 1) := by decide +kernel
theorem dX8_write_1 : decode cX8_write 1 = .ok (.ifCond .lt 10, 3) := by decide +kernel
theorem dX8_write_4 : decode cX8_write 4 = .ok (.iload_n 1, 1) := by decide +kernel
theorem dX8_write_5 : decode cX8_write 5 = .ok (.sipush 255, 3) := by decide +kernel
theorem dX8_write_8 : decode cX8_write 8 = .ok (.if_icmp .le 6, 3) := by decide +kernel
theorem dX8_write_11 : decode cX8_write 11 = .ok (.bipush (-2), 2) := by decide +kernel
theorem dX8_write_13 : decode cX8_write 13 = .ok (.ireturn, 1) := by decide +kernel
theorem dX8_write_14 : decode cX8_write 14 = .ok (.aload_n 0, 1) := by decide +kernel
theorem dX8_write_15 : decode cX8_write 15 = .ok (.getfield 10, 3) := by decide +kernel
theorem dX8_write_18 : decode cX8_write 18 = .ok (.invokevirtual 79, 3) := by decide +kernel
theorem dX8_write_21 : decode cX8_write 21 = .ok (.bipush 48, 2) := by decide +kernel
theorem dX8_write_23 : decode cX8_write 23 = .ok (.if_icmp .lt 6, 3) := by decide +kernel
theorem dX8_write_26 : decode cX8_write 26 = .ok (.bipush (-4), 2) := by decide +kernel
theorem dX8_write_28 : decode cX8_write 28 = .ok (.ireturn, 1) := by decide +kernel
theorem dX8_write_29 : decode cX8_write 29 = .ok (.aload_n 0, 1) := by decide +kernel
theorem dX8_write_30 : decode cX8_write 30 = .ok (.getfield 10, 3) := by decide +kernel
theorem dX8_write_33 : decode cX8_write 33 = .ok (.iload_n 1, 1) := by decide +kernel
theorem dX8_write_34 : decode cX8_write 34 = .ok (.invokevirtual 83, 3) := by decide +kernel
theorem dX8_write_37 : decode cX8_write 37 = .ok (.aload_n 0, 1) := by decide +kernel
theorem dX8_write_38 : decode cX8_write 38 = .ok (.getfield 10, 3) := by decide +kernel
theorem dX8_write_41 : decode cX8_write 41 = .ok (.invokevirtual 79, 3) := by decide +kernel
theorem dX8_write_44 : decode cX8_write 44 = .ok (.ireturn, 1) := by decide +kernel
theorem dX8_wipe_0 : decode cX8_wipe 0 = .ok (.aload_n 0, 1) := by decide +kernel
theorem dX8_wipe_1 : decode cX8_wipe 1 = .ok (.getfield 10, 3) := by decide +kernel
theorem dX8_wipe_4 : decode cX8_wipe 4 = .ok (.invokevirtual 79, 3) := by decide +kernel
theorem dX8_wipe_7 : decode cX8_wipe 7 = .ok (.istore_n 1, 1) := by decide +kernel
theorem dX8_wipe_8 : decode cX8_wipe 8 = .ok (.aload_n 0, 1) := by decide +kernel
theorem dX8_wipe_9 : decode cX8_wipe 9 = .ok (.getfield 10, 3) := by decide +kernel
theorem dX8_wipe_12 : decode cX8_wipe 12 = .ok (.invokevirtual 87, 3) := by decide +kernel
theorem dX8_wipe_15 : decode cX8_wipe 15 = .ok (.iload_n 1, 1) := by decide +kernel
theorem dX8_wipe_16 : decode cX8_wipe 16 = .ok (.ireturn, 1) := by decide +kernel
theorem dX8_fault_0 : decode cX8_fault 0 = .ok (.aload_n 0, 1) := by decide +kernel
theorem dX8_fault_1 : decode cX8_fault 1 = .ok (.getfield 10, 3) := by decide +kernel
theorem dX8_fault_4 : decode cX8_fault 4 = .ok (.invokevirtual 90, 3) := by decide +kernel
theorem dX8_fault_7 : decode cX8_fault 7 = .ok (.ireturn, 1) := by decide +kernel
theorem dX8_army_0 : decode cX8_army 0 = .ok (.aload_n 0, 1) := by decide +kernel
theorem dX8_army_1 : decode cX8_army 1 = .ok (.getfield 10, 3) := by decide +kernel
theorem dX8_army_4 : decode cX8_army 4 = .ok (.invokevirtual 90, 3) := by decide +kernel
theorem dX8_army_7 : decode cX8_army 7 = .ok (.bipush (-9), 2) := by decide +kernel
theorem dX8_army_9 : decode cX8_army 9 = .ok (.if_icmp .eq 6, 3) := by decide +kernel
theorem dX8_army_12 : decode cX8_army 12 = .ok (.bipush (-3), 2) := by decide +kernel
theorem dX8_army_14 : decode cX8_army 14 = .ok (.ireturn, 1) := by decide +kernel
theorem dX8_army_15 : decode cX8_army 15 = .ok (.aload_n 0, 1) := by decide +kernel
theorem dX8_army_16 : decode cX8_army 16 = .ok (.getfield 10, 3) := by decide +kernel
theorem dX8_army_19 : decode cX8_army 19 = .ok (.aload_n 0, 1) := by decide +kernel
theorem dX8_army_20 : decode cX8_army 20 = .ok (.getfield 19, 3) := by decide +kernel
theorem dX8_army_23 : decode cX8_army 23 = .ok (.aload_n 0, 1) := by decide +kernel
theorem dX8_army_24 : decode cX8_army 24 = .ok (.getfield 26, 3) := by decide +kernel
theorem dX8_army_27 : decode cX8_army 27 = .ok (.invokevirtual 93, 3) := by decide +kernel
theorem dX8_army_30 : decode cX8_army 30 = .ok (.aload_n 0, 1) := by decide +kernel
theorem dX8_army_31 : decode cX8_army 31 = .ok (.getfield 35, 3) := by decide +kernel
theorem dX8_army_34 : decode cX8_army 34 = .ok (.invokevirtual 96, 3) := by decide +kernel
theorem dX8_army_37 : decode cX8_army 37 = .ok (.aload_n 0, 1) := by decide +kernel
theorem dX8_army_38 : decode cX8_army 38 = .ok (.getfield 42, 3) := by decide +kernel
theorem dX8_army_41 : decode cX8_army 41 = .ok (.invokevirtual 99, 3) := by decide +kernel
theorem dX8_army_44 : decode cX8_army 44 = .ok (.iconst 0, 1) := by decide +kernel
theorem dX8_army_45 : decode cX8_army 45 = .ok (.istore_n 1, 1) := by decide +kernel
theorem dX8_army_46 : decode cX8_army 46 = .ok (.iload_n 1, 1) := by decide +kernel
theorem dX8_army_47 : decode cX8_army 47 = .ok (.aload_n 0, 1) := by decide +kernel
theorem dX8_army_48 : decode cX8_army 48 = .ok (.getfield 71, 3) := by decide +kernel
theorem dX8_army_51 : decode cX8_army 51 = .ok (.arraylength, 1) := by decide +kernel
theorem dX8_army_52 : decode cX8_army 52 = .ok (.if_icmp .ge 18, 3) := by decide +kernel
theorem dX8_army_55 : decode cX8_army 55 = .ok (.aload_n 0, 1) := by decide +kernel
theorem dX8_army_56 : decode cX8_army 56 = .ok (.getfield 71, 3) := by decide +kernel
theorem dX8_army_59 : decode cX8_army 59 = .ok (.iload_n 1, 1) := by decide +kernel
theorem dX8_army_60 : decode cX8_army 60 = .ok (.ldc2_w 69, 3) := by decide +kernel
theorem dX8_army_63 : decode cX8_army 63 = .ok (.lastore, 1) := by decide +kernel
theorem dX8_army_64 : decode cX8_army 64 = .ok (.iinc 1 1, 3) := by decide +kernel
theorem dX8_army_67 : decode cX8_army 67 = .ok (.goto (-21), 3) := by decide +kernel
theorem dX8_army_70 : decode cX8_army 70 = .ok (.bipush 10, 2) := by decide +kernel
theorem dX8_army_72 : decode cX8_army 72 = .ok (.aload_n 0, 1) := by decide +kernel
theorem dX8_army_73 : decode cX8_army 73 = .ok (.getfield 19, 3) := by decide +kernel
theorem dX8_army_76 : decode cX8_army 76 = .ok (.invokevirtual 102, 3) := by decide +kernel
theorem dX8_army_79 : decode cX8_army 79 = .ok (.imul, 1) := by decide +kernel
theorem dX8_army_80 : decode cX8_army 80 = .ok (.aload_n 0, 1) := by decide +kernel
theorem dX8_army_81 : decode cX8_army 81 = .ok (.getfield 26, 3) := by decide +kernel
theorem dX8_army_84 : decode cX8_army 84 = .ok (.invokevirtual 105, 3) := by decide +kernel
theorem dX8_army_87 : decode cX8_army 87 = .ok (.iadd, 1) := by decide +kernel
theorem dX8_army_88 : decode cX8_army 88 = .ok (.ireturn, 1) := by decide +kernel
theorem dX8_about_0 : decode cX8_about 0 = .ok (.iload_n 1, 1) := by decide +kernel
theorem dX8_about_1 : decode cX8_about 1 = .ok (.tableswitch 166 0 11 #[63, 71, 79, 87, 95, 103, 111, 119, 134, 142, 150, 158], 63) := by decide +kernel
theorem dX8_about_64 : decode cX8_about 64 = .ok (.aload_n 0, 1) := by decide +kernel
theorem dX8_about_65 : decode cX8_about 65 = .ok (.getfield 19, 3) := by decide +kernel
theorem dX8_about_68 : decode cX8_about 68 = .ok (.invokevirtual 102, 3) := by decide +kernel
theorem dX8_about_71 : decode cX8_about 71 = .ok (.ireturn, 1) := by decide +kernel
theorem dX8_about_72 : decode cX8_about 72 = .ok (.aload_n 0, 1) := by decide +kernel
theorem dX8_about_73 : decode cX8_about 73 = .ok (.getfield 26, 3) := by decide +kernel
theorem dX8_about_76 : decode cX8_about 76 = .ok (.invokevirtual 105, 3) := by decide +kernel
theorem dX8_about_79 : decode cX8_about 79 = .ok (.ireturn, 1) := by decide +kernel
theorem dX8_about_80 : decode cX8_about 80 = .ok (.aload_n 0, 1) := by decide +kernel
theorem dX8_about_81 : decode cX8_about 81 = .ok (.getfield 19, 3) := by decide +kernel
theorem dX8_about_84 : decode cX8_about 84 = .ok (.invokevirtual 106, 3) := by decide +kernel
theorem dX8_about_87 : decode cX8_about 87 = .ok (.ireturn, 1) := by decide +kernel
theorem dX8_about_88 : decode cX8_about 88 = .ok (.aload_n 0, 1) := by decide +kernel
theorem dX8_about_89 : decode cX8_about 89 = .ok (.getfield 35, 3) := by decide +kernel
theorem dX8_about_92 : decode cX8_about 92 = .ok (.invokevirtual 109, 3) := by decide +kernel
theorem dX8_about_95 : decode cX8_about 95 = .ok (.ireturn, 1) := by decide +kernel
theorem dX8_about_96 : decode cX8_about 96 = .ok (.aload_n 0, 1) := by decide +kernel
theorem dX8_about_97 : decode cX8_about 97 = .ok (.getfield 35, 3) := by decide +kernel
theorem dX8_about_100 : decode cX8_about 100 = .ok (.invokevirtual 112, 3) := by decide +kernel
theorem dX8_about_103 : decode cX8_about 103 = .ok (.ireturn, 1) := by decide +kernel
theorem dX8_about_104 : decode cX8_about 104 = .ok (.aload_n 0, 1) := by decide +kernel
theorem dX8_about_105 : decode cX8_about 105 = .ok (.getfield 35, 3) := by decide +kernel
theorem dX8_about_108 : decode cX8_about 108 = .ok (.invokevirtual 115, 3) := by decide +kernel
theorem dX8_about_111 : decode cX8_about 111 = .ok (.ireturn, 1) := by decide +kernel
theorem dX8_about_112 : decode cX8_about 112 = .ok (.aload_n 0, 1) := by decide +kernel
theorem dX8_about_113 : decode cX8_about 113 = .ok (.getfield 35, 3) := by decide +kernel
theorem dX8_about_116 : decode cX8_about 116 = .ok (.invokevirtual 118, 3) := by decide +kernel
theorem dX8_about_119 : decode cX8_about 119 = .ok (.ireturn, 1) := by decide +kernel
theorem dX8_about_120 : decode cX8_about 120 = .ok (.aload_n 0, 1) := by decide +kernel
theorem dX8_about_121 : decode cX8_about 121 = .ok (.getfield 19, 3) := by decide +kernel
theorem dX8_about_124 : decode cX8_about 124 = .ok (.aload_n 0, 1) := by decide +kernel
theorem dX8_about_125 : decode cX8_about 125 = .ok (.getfield 35, 3) := by decide +kernel
theorem dX8_about_128 : decode cX8_about 128 = .ok (.invokevirtual 109, 3) := by decide +kernel
theorem dX8_about_131 : decode cX8_about 131 = .ok (.invokevirtual 121, 3) := by decide +kernel
theorem dX8_about_134 : decode cX8_about 134 = .ok (.ireturn, 1) := by decide +kernel
theorem dX8_about_135 : decode cX8_about 135 = .ok (.aload_n 0, 1) := by decide +kernel
theorem dX8_about_136 : decode cX8_about 136 = .ok (.getfield 35, 3) := by decide +kernel
theorem dX8_about_139 : decode cX8_about 139 = .ok (.invokevirtual 125, 3) := by decide +kernel
theorem dX8_about_142 : decode cX8_about 142 = .ok (.ireturn, 1) := by decide +kernel
theorem dX8_about_143 : decode cX8_about 143 = .ok (.aload_n 0, 1) := by decide +kernel
theorem dX8_about_144 : decode cX8_about 144 = .ok (.getfield 42, 3) := by decide +kernel
theorem dX8_about_147 : decode cX8_about 147 = .ok (.invokevirtual 128, 3) := by decide +kernel
theorem dX8_about_150 : decode cX8_about 150 = .ok (.ireturn, 1) := by decide +kernel
theorem dX8_about_151 : decode cX8_about 151 = .ok (.aload_n 0, 1) := by decide +kernel
theorem dX8_about_152 : decode cX8_about 152 = .ok (.getfield 65, 3) := by decide +kernel
theorem dX8_about_155 : decode cX8_about 155 = .ok (.invokevirtual 129, 3) := by decide +kernel
theorem dX8_about_158 : decode cX8_about 158 = .ok (.ireturn, 1) := by decide +kernel
theorem dX8_about_159 : decode cX8_about 159 = .ok (.aload_n 0, 1) := by decide +kernel
theorem dX8_about_160 : decode cX8_about 160 = .ok (.getfield 10, 3) := by decide +kernel
theorem dX8_about_163 : decode cX8_about 163 = .ok (.invokevirtual 79, 3) := by decide +kernel
theorem dX8_about_166 : decode cX8_about 166 = .ok (.ireturn, 1) := by decide +kernel
theorem dX8_about_167 : decode cX8_about 167 = .ok (.bipush (-2), 2) := by decide +kernel
theorem dX8_about_169 : decode cX8_about 169 = .ok (.ireturn, 1) := by decide +kernel
theorem dX8_man_0 : decode cX8_man 0 = .ok (.aload_n 0, 1) := by decide +kernel
theorem dX8_man_1 : decode cX8_man 1 = .ok (.getfield 26, 3) := by decide +kernel
theorem dX8_man_4 : decode cX8_man 4 = .ok (.iload_n 1, 1) := by decide +kernel
theorem dX8_man_5 : decode cX8_man 5 = .ok (.invokevirtual 130, 3) := by decide +kernel
theorem dX8_man_8 : decode cX8_man 8 = .ok (.ifCond .ne 5, 3) := by decide +kernel
theorem dX8_man_11 : decode cX8_man 11 = .ok (.iconst (-1), 1) := by decide +kernel
theorem dX8_man_12 : decode cX8_man 12 = .ok (.ireturn, 1) := by decide +kernel
theorem dX8_man_13 : decode cX8_man 13 = .ok (.iload_n 2, 1) := by decide +kernel
theorem dX8_man_14 : decode cX8_man 14 = .ok (.tableswitch 66 0 3 #[30, 39, 48, 57], 30) := by decide +kernel
theorem dX8_man_44 : decode cX8_man 44 = .ok (.aload_n 0, 1) := by decide +kernel
theorem dX8_man_45 : decode cX8_man 45 = .ok (.getfield 26, 3) := by decide +kernel
theorem dX8_man_48 : decode cX8_man 48 = .ok (.iload_n 1, 1) := by decide +kernel
theorem dX8_man_49 : decode cX8_man 49 = .ok (.invokevirtual 134, 3) := by decide +kernel
theorem dX8_man_52 : decode cX8_man 52 = .ok (.ireturn, 1) := by decide +kernel
theorem dX8_man_53 : decode cX8_man 53 = .ok (.aload_n 0, 1) := by decide +kernel
theorem dX8_man_54 : decode cX8_man 54 = .ok (.getfield 26, 3) := by decide +kernel
theorem dX8_man_57 : decode cX8_man 57 = .ok (.iload_n 1, 1) := by decide +kernel
theorem dX8_man_58 : decode cX8_man 58 = .ok (.invokevirtual 137, 3) := by decide +kernel
theorem dX8_man_61 : decode cX8_man 61 = .ok (.ireturn, 1) := by decide +kernel
theorem dX8_man_62 : decode cX8_man 62 = .ok (.aload_n 0, 1) := by decide +kernel
theorem dX8_man_63 : decode cX8_man 63 = .ok (.getfield 35, 3) := by decide +kernel
theorem dX8_man_66 : decode cX8_man 66 = .ok (.iload_n 1, 1) := by decide +kernel
theorem dX8_man_67 : decode cX8_man 67 = .ok (.invokevirtual 140, 3) := by decide +kernel
theorem dX8_man_70 : decode cX8_man 70 = .ok (.ireturn, 1) := by decide +kernel
theorem dX8_man_71 : decode cX8_man 71 = .ok (.aload_n 0, 1) := by decide +kernel
theorem dX8_man_72 : decode cX8_man 72 = .ok (.getfield 35, 3) := by decide +kernel
theorem dX8_man_75 : decode cX8_man 75 = .ok (.iload_n 1, 1) := by decide +kernel
theorem dX8_man_76 : decode cX8_man 76 = .ok (.invokevirtual 143, 3) := by decide +kernel
theorem dX8_man_79 : decode cX8_man 79 = .ok (.ireturn, 1) := by decide +kernel
theorem dX8_man_80 : decode cX8_man 80 = .ok (.bipush (-2), 2) := by decide +kernel
theorem dX8_man_82 : decode cX8_man 82 = .ok (.ireturn, 1) := by decide +kernel
theorem dX8_stretch_0 : decode cX8_stretch 0 = .ok (.aload_n 0, 1) := by decide +kernel
theorem dX8_stretch_1 : decode cX8_stretch 1 = .ok (.getfield 19, 3) := by decide +kernel
theorem dX8_stretch_4 : decode cX8_stretch 4 = .ok (.iload_n 1, 1) := by decide +kernel
theorem dX8_stretch_5 : decode cX8_stretch 5 = .ok (.invokevirtual 146, 3) := by decide +kernel
theorem dX8_stretch_8 : decode cX8_stretch 8 = .ok (.ifCond .ne 5, 3) := by decide +kernel
theorem dX8_stretch_11 : decode cX8_stretch 11 = .ok (.iconst (-1), 1) := by decide +kernel
theorem dX8_stretch_12 : decode cX8_stretch 12 = .ok (.ireturn, 1) := by decide +kernel
theorem dX8_stretch_13 : decode cX8_stretch 13 = .ok (.iload_n 2, 1) := by decide +kernel
theorem dX8_stretch_14 : decode cX8_stretch 14 = .ok (.tableswitch 53 0 2 #[26, 35, 44], 26) := by decide +kernel
theorem dX8_stretch_40 : decode cX8_stretch 40 = .ok (.aload_n 0, 1) := by decide +kernel
theorem dX8_stretch_41 : decode cX8_stretch 41 = .ok (.getfield 19, 3) := by decide +kernel
theorem dX8_stretch_44 : decode cX8_stretch 44 = .ok (.iload_n 1, 1) := by decide +kernel
theorem dX8_stretch_45 : decode cX8_stretch 45 = .ok (.invokevirtual 147, 3) := by decide +kernel
theorem dX8_stretch_48 : decode cX8_stretch 48 = .ok (.ireturn, 1) := by decide +kernel
theorem dX8_stretch_49 : decode cX8_stretch 49 = .ok (.aload_n 0, 1) := by decide +kernel
theorem dX8_stretch_50 : decode cX8_stretch 50 = .ok (.getfield 19, 3) := by decide +kernel
theorem dX8_stretch_53 : decode cX8_stretch 53 = .ok (.iload_n 1, 1) := by decide +kernel
theorem dX8_stretch_54 : decode cX8_stretch 54 = .ok (.invokevirtual 150, 3) := by decide +kernel
theorem dX8_stretch_57 : decode cX8_stretch 57 = .ok (.ireturn, 1) := by decide +kernel
theorem dX8_stretch_58 : decode cX8_stretch 58 = .ok (.aload_n 0, 1) := by decide +kernel
theorem dX8_stretch_59 : decode cX8_stretch 59 = .ok (.getfield 19, 3) := by decide +kernel
theorem dX8_stretch_62 : decode cX8_stretch 62 = .ok (.iload_n 1, 1) := by decide +kernel
theorem dX8_stretch_63 : decode cX8_stretch 63 = .ok (.invokevirtual 153, 3) := by decide +kernel
theorem dX8_stretch_66 : decode cX8_stretch 66 = .ok (.ireturn, 1) := by decide +kernel
theorem dX8_stretch_67 : decode cX8_stretch 67 = .ok (.bipush (-2), 2) := by decide +kernel
theorem dX8_stretch_69 : decode cX8_stretch 69 = .ok (.ireturn, 1) := by decide +kernel
theorem dX8_day_0 : decode cX8_day 0 = .ok (.aload_n 0, 1) := by decide +kernel
theorem dX8_day_1 : decode cX8_day 1 = .ok (.getfield 42, 3) := by decide +kernel
theorem dX8_day_4 : decode cX8_day 4 = .ok (.aload_n 0, 1) := by decide +kernel
theorem dX8_day_5 : decode cX8_day 5 = .ok (.getfield 35, 3) := by decide +kernel
theorem dX8_day_8 : decode cX8_day 8 = .ok (.invokevirtual 156, 3) := by decide +kernel
theorem dX8_day_11 : decode cX8_day 11 = .ok (.invokevirtual 160, 3) := by decide +kernel
theorem dX8_day_14 : decode cX8_day 14 = .ok (.aload_n 0, 1) := by decide +kernel
theorem dX8_day_15 : decode cX8_day 15 = .ok (.getfield 35, 3) := by decide +kernel
theorem dX8_day_18 : decode cX8_day 18 = .ok (.invokevirtual 164, 3) := by decide +kernel
theorem dX8_day_21 : decode cX8_day 21 = .ok (.ireturn, 1) := by decide +kernel
theorem dX8_halt_0 : decode cX8_halt 0 = .ok (.aload_n 0, 1) := by decide +kernel
theorem dX8_halt_1 : decode cX8_halt 1 = .ok (.getfield 42, 3) := by decide +kernel
theorem dX8_halt_4 : decode cX8_halt 4 = .ok (.aload_n 0, 1) := by decide +kernel
theorem dX8_halt_5 : decode cX8_halt 5 = .ok (.getfield 35, 3) := by decide +kernel
theorem dX8_halt_8 : decode cX8_halt 8 = .ok (.invokevirtual 156, 3) := by decide +kernel
theorem dX8_halt_11 : decode cX8_halt 11 = .ok (.invokevirtual 160, 3) := by decide +kernel
theorem dX8_halt_14 : decode cX8_halt 14 = .ok (.aload_n 0, 1) := by decide +kernel
theorem dX8_halt_15 : decode cX8_halt 15 = .ok (.getfield 35, 3) := by decide +kernel
theorem dX8_halt_18 : decode cX8_halt 18 = .ok (.invokevirtual 167, 3) := by decide +kernel
theorem dX8_halt_21 : decode cX8_halt 21 = .ok (.aload_n 0, 1) := by decide +kernel
theorem dX8_halt_22 : decode cX8_halt 22 = .ok (.getfield 35, 3) := by decide +kernel
theorem dX8_halt_25 : decode cX8_halt 25 = .ok (.invokevirtual 125, 3) := by decide +kernel
theorem dX8_halt_28 : decode cX8_halt 28 = .ok (.ireturn, 1) := by decide +kernel
theorem dX8_gravel_0 : decode cX8_gravel 0 = .ok (.aload_n 0, 1) := by decide +kernel
theorem dX8_gravel_1 : decode cX8_gravel 1 = .ok (.getfield 26, 3) := by decide +kernel
theorem dX8_gravel_4 : decode cX8_gravel 4 = .ok (.iload_n 1, 1) := by decide +kernel
theorem dX8_gravel_5 : decode cX8_gravel 5 = .ok (.invokevirtual 130, 3) := by decide +kernel
theorem dX8_gravel_8 : decode cX8_gravel 8 = .ok (.ifCond .ne 5, 3) := by decide +kernel
theorem dX8_gravel_11 : decode cX8_gravel 11 = .ok (.iconst (-1), 1) := by decide +kernel
theorem dX8_gravel_12 : decode cX8_gravel 12 = .ok (.ireturn, 1) := by decide +kernel
theorem dX8_gravel_13 : decode cX8_gravel 13 = .ok (.aload_n 0, 1) := by decide +kernel
theorem dX8_gravel_14 : decode cX8_gravel 14 = .ok (.getfield 35, 3) := by decide +kernel
theorem dX8_gravel_17 : decode cX8_gravel 17 = .ok (.iload_n 1, 1) := by decide +kernel
theorem dX8_gravel_18 : decode cX8_gravel 18 = .ok (.invokevirtual 170, 3) := by decide +kernel
theorem dX8_gravel_21 : decode cX8_gravel 21 = .ok (.ifCond .ne 6, 3) := by decide +kernel
theorem dX8_gravel_24 : decode cX8_gravel 24 = .ok (.bipush (-4), 2) := by decide +kernel
theorem dX8_gravel_26 : decode cX8_gravel 26 = .ok (.ireturn, 1) := by decide +kernel
theorem dX8_gravel_27 : decode cX8_gravel 27 = .ok (.aload_n 0, 1) := by decide +kernel
theorem dX8_gravel_28 : decode cX8_gravel 28 = .ok (.getfield 42, 3) := by decide +kernel
theorem dX8_gravel_31 : decode cX8_gravel 31 = .ok (.aload_n 0, 1) := by decide +kernel
theorem dX8_gravel_32 : decode cX8_gravel 32 = .ok (.getfield 35, 3) := by decide +kernel
theorem dX8_gravel_35 : decode cX8_gravel 35 = .ok (.invokevirtual 156, 3) := by decide +kernel
theorem dX8_gravel_38 : decode cX8_gravel 38 = .ok (.invokevirtual 160, 3) := by decide +kernel
theorem dX8_gravel_41 : decode cX8_gravel 41 = .ok (.aload_n 0, 1) := by decide +kernel
theorem dX8_gravel_42 : decode cX8_gravel 42 = .ok (.getfield 35, 3) := by decide +kernel
theorem dX8_gravel_45 : decode cX8_gravel 45 = .ok (.iload_n 1, 1) := by decide +kernel
theorem dX8_gravel_46 : decode cX8_gravel 46 = .ok (.invokevirtual 173, 3) := by decide +kernel
theorem dX8_gravel_49 : decode cX8_gravel 49 = .ok (.aload_n 0, 1) := by decide +kernel
theorem dX8_gravel_50 : decode cX8_gravel 50 = .ok (.getfield 35, 3) := by decide +kernel
theorem dX8_gravel_53 : decode cX8_gravel 53 = .ok (.iload_n 1, 1) := by decide +kernel
theorem dX8_gravel_54 : decode cX8_gravel 54 = .ok (.invokevirtual 140, 3) := by decide +kernel
theorem dX8_gravel_57 : decode cX8_gravel 57 = .ok (.ireturn, 1) := by decide +kernel
theorem dX8_pull_0 : decode cX8_pull 0 = .ok (.aload_n 0, 1) := by decide +kernel
theorem dX8_pull_1 : decode cX8_pull 1 = .ok (.getfield 26, 3) := by decide +kernel
theorem dX8_pull_4 : decode cX8_pull 4 = .ok (.iload_n 1, 1) := by decide +kernel
theorem dX8_pull_5 : decode cX8_pull 5 = .ok (.invokevirtual 130, 3) := by decide +kernel
theorem dX8_pull_8 : decode cX8_pull 8 = .ok (.ifCond .ne 5, 3) := by decide +kernel
theorem dX8_pull_11 : decode cX8_pull 11 = .ok (.iconst (-1), 1) := by decide +kernel
theorem dX8_pull_12 : decode cX8_pull 12 = .ok (.ireturn, 1) := by decide +kernel
theorem dX8_pull_13 : decode cX8_pull 13 = .ok (.aload_n 0, 1) := by decide +kernel
theorem dX8_pull_14 : decode cX8_pull 14 = .ok (.getfield 35, 3) := by decide +kernel
theorem dX8_pull_17 : decode cX8_pull 17 = .ok (.iload_n 1, 1) := by decide +kernel
theorem dX8_pull_18 : decode cX8_pull 18 = .ok (.invokevirtual 176, 3) := by decide +kernel
theorem dX8_pull_21 : decode cX8_pull 21 = .ok (.ifCond .ne 6, 3) := by decide +kernel
theorem dX8_pull_24 : decode cX8_pull 24 = .ok (.bipush (-3), 2) := by decide +kernel
theorem dX8_pull_26 : decode cX8_pull 26 = .ok (.ireturn, 1) := by decide +kernel
theorem dX8_pull_27 : decode cX8_pull 27 = .ok (.aload_n 0, 1) := by decide +kernel
theorem dX8_pull_28 : decode cX8_pull 28 = .ok (.getfield 42, 3) := by decide +kernel
theorem dX8_pull_31 : decode cX8_pull 31 = .ok (.aload_n 0, 1) := by decide +kernel
theorem dX8_pull_32 : decode cX8_pull 32 = .ok (.getfield 35, 3) := by decide +kernel
theorem dX8_pull_35 : decode cX8_pull 35 = .ok (.invokevirtual 156, 3) := by decide +kernel
theorem dX8_pull_38 : decode cX8_pull 38 = .ok (.invokevirtual 160, 3) := by decide +kernel
theorem dX8_pull_41 : decode cX8_pull 41 = .ok (.aload_n 0, 1) := by decide +kernel
theorem dX8_pull_42 : decode cX8_pull 42 = .ok (.getfield 35, 3) := by decide +kernel
theorem dX8_pull_45 : decode cX8_pull 45 = .ok (.iload_n 1, 1) := by decide +kernel
theorem dX8_pull_46 : decode cX8_pull 46 = .ok (.invokevirtual 179, 3) := by decide +kernel
theorem dX8_pull_49 : decode cX8_pull 49 = .ok (.aload_n 0, 1) := by decide +kernel
theorem dX8_pull_50 : decode cX8_pull 50 = .ok (.getfield 35, 3) := by decide +kernel
theorem dX8_pull_53 : decode cX8_pull 53 = .ok (.iload_n 1, 1) := by decide +kernel
theorem dX8_pull_54 : decode cX8_pull 54 = .ok (.invokevirtual 140, 3) := by decide +kernel
theorem dX8_pull_57 : decode cX8_pull 57 = .ok (.ireturn, 1) := by decide +kernel
theorem dX8_undo_0 : decode cX8_undo 0 = .ok (.aload_n 0, 1) := by decide +kernel
theorem dX8_undo_1 : decode cX8_undo 1 = .ok (.getfield 42, 3) := by decide +kernel
theorem dX8_undo_4 : decode cX8_undo 4 = .ok (.invokevirtual 128, 3) := by decide +kernel
theorem dX8_undo_7 : decode cX8_undo 7 = .ok (.ifCond .ne 6, 3) := by decide +kernel
theorem dX8_undo_10 : decode cX8_undo 10 = .ok (.bipush (-3), 2) := by decide +kernel
theorem dX8_undo_12 : decode cX8_undo 12 = .ok (.ireturn, 1) := by decide +kernel
theorem dX8_undo_13 : decode cX8_undo 13 = .ok (.aload_n 0, 1) := by decide +kernel
theorem dX8_undo_14 : decode cX8_undo 14 = .ok (.getfield 35, 3) := by decide +kernel
theorem dX8_undo_17 : decode cX8_undo 17 = .ok (.aload_n 0, 1) := by decide +kernel
theorem dX8_undo_18 : decode cX8_undo 18 = .ok (.getfield 42, 3) := by decide +kernel
theorem dX8_undo_21 : decode cX8_undo 21 = .ok (.invokevirtual 182, 3) := by decide +kernel
theorem dX8_undo_24 : decode cX8_undo 24 = .ok (.invokevirtual 185, 3) := by decide +kernel
theorem dX8_undo_27 : decode cX8_undo 27 = .ok (.aload_n 0, 1) := by decide +kernel
theorem dX8_undo_28 : decode cX8_undo 28 = .ok (.getfield 42, 3) := by decide +kernel
theorem dX8_undo_31 : decode cX8_undo 31 = .ok (.invokevirtual 128, 3) := by decide +kernel
theorem dX8_undo_34 : decode cX8_undo 34 = .ok (.ireturn, 1) := by decide +kernel
theorem dX8_later_0 : decode cX8_later 0 = .ok (.iload_n 1, 1) := by decide +kernel
theorem dX8_later_1 : decode cX8_later 1 = .ok (.ifCond .lt 16, 3) := by decide +kernel
theorem dX8_later_4 : decode cX8_later 4 = .ok (.iload_n 1, 1) := by decide +kernel
theorem dX8_later_5 : decode cX8_later 5 = .ok (.bipush 40, 2) := by decide +kernel
theorem dX8_later_7 : decode cX8_later 7 = .ok (.if_icmp .gt 10, 3) := by decide +kernel
theorem dX8_later_10 : decode cX8_later 10 = .ok (.iload_n 2, 1) := by decide +kernel
theorem dX8_later_11 : decode cX8_later 11 = .ok (.invokestatic 188, 3) := by decide +kernel
theorem dX8_later_14 : decode cX8_later 14 = .ok (.ifCond .ne 6, 3) := by decide +kernel
theorem dX8_later_17 : decode cX8_later 17 = .ok (.bipush (-2), 2) := by decide +kernel
theorem dX8_later_19 : decode cX8_later 19 = .ok (.ireturn, 1) := by decide +kernel
theorem dX8_later_20 : decode cX8_later 20 = .ok (.iload_n 2, 1) := by decide +kernel
theorem dX8_later_21 : decode cX8_later 21 = .ok (.ifCond .ne 14, 3) := by decide +kernel
theorem dX8_later_24 : decode cX8_later 24 = .ok (.aload_n 0, 1) := by decide +kernel
theorem dX8_later_25 : decode cX8_later 25 = .ok (.getfield 51, 3) := by decide +kernel
theorem dX8_later_28 : decode cX8_later 28 = .ok (.iload_n 1, 1) := by decide +kernel
theorem dX8_later_29 : decode cX8_later 29 = .ok (.invokevirtual 191, 3) := by decide +kernel
theorem dX8_later_32 : decode cX8_later 32 = .ok (.goto 11, 3) := by decide +kernel
theorem dX8_later_35 : decode cX8_later 35 = .ok (.aload_n 0, 1) := by decide +kernel
theorem dX8_later_36 : decode cX8_later 36 = .ok (.getfield 51, 3) := by decide +kernel
theorem dX8_later_39 : decode cX8_later 39 = .ok (.iload_n 1, 1) := by decide +kernel
theorem dX8_later_40 : decode cX8_later 40 = .ok (.invokevirtual 194, 3) := by decide +kernel
theorem dX8_later_43 : decode cX8_later 43 = .ok (.ireturn, 1) := by decide +kernel
theorem dX8_comes_0 : decode cX8_comes 0 = .ok (.aload_n 0, 1) := by decide +kernel
theorem dX8_comes_1 : decode cX8_comes 1 = .ok (.getfield 51, 3) := by decide +kernel
theorem dX8_comes_4 : decode cX8_comes 4 = .ok (.invokevirtual 197, 3) := by decide +kernel
theorem dX8_comes_7 : decode cX8_comes 7 = .ok (.ireturn, 1) := by decide +kernel
theorem dX8_leads_0 : decode cX8_leads 0 = .ok (.aload_n 0, 1) := by decide +kernel
theorem dX8_leads_1 : decode cX8_leads 1 = .ok (.getfield 26, 3) := by decide +kernel
theorem dX8_leads_4 : decode cX8_leads 4 = .ok (.iload_n 1, 1) := by decide +kernel
theorem dX8_leads_5 : decode cX8_leads 5 = .ok (.invokevirtual 130, 3) := by decide +kernel
theorem dX8_leads_8 : decode cX8_leads 8 = .ok (.ifCond .ne 5, 3) := by decide +kernel
theorem dX8_leads_11 : decode cX8_leads 11 = .ok (.iconst (-1), 1) := by decide +kernel
theorem dX8_leads_12 : decode cX8_leads 12 = .ok (.ireturn, 1) := by decide +kernel
theorem dX8_leads_13 : decode cX8_leads 13 = .ok (.aload_n 0, 1) := by decide +kernel
theorem dX8_leads_14 : decode cX8_leads 14 = .ok (.getfield 51, 3) := by decide +kernel
theorem dX8_leads_17 : decode cX8_leads 17 = .ok (.iload_n 1, 1) := by decide +kernel
theorem dX8_leads_18 : decode cX8_leads 18 = .ok (.invokevirtual 200, 3) := by decide +kernel
theorem dX8_leads_21 : decode cX8_leads 21 = .ok (.ireturn, 1) := by decide +kernel
theorem dX8_cure_0 : decode cX8_cure 0 = .ok (.iload_n 1, 1) := by decide +kernel
theorem dX8_cure_1 : decode cX8_cure 1 = .ok (.invokestatic 188, 3) := by decide +kernel
theorem dX8_cure_4 : decode cX8_cure 4 = .ok (.ifCond .ne 6, 3) := by decide +kernel
theorem dX8_cure_7 : decode cX8_cure 7 = .ok (.bipush (-2), 2) := by decide +kernel
theorem dX8_cure_9 : decode cX8_cure 9 = .ok (.ireturn, 1) := by decide +kernel
theorem dX8_cure_10 : decode cX8_cure 10 = .ok (.aload_n 0, 1) := by decide +kernel
theorem dX8_cure_11 : decode cX8_cure 11 = .ok (.getfield 51, 3) := by decide +kernel
theorem dX8_cure_14 : decode cX8_cure 14 = .ok (.iload_n 1, 1) := by decide +kernel
theorem dX8_cure_15 : decode cX8_cure 15 = .ok (.ifCond .ne 7, 3) := by decide +kernel
theorem dX8_cure_18 : decode cX8_cure 18 = .ok (.iconst 1, 1) := by decide +kernel
theorem dX8_cure_19 : decode cX8_cure 19 = .ok (.goto 4, 3) := by decide +kernel
theorem dX8_cure_22 : decode cX8_cure 22 = .ok (.iconst 0, 1) := by decide +kernel
theorem dX8_cure_23 : decode cX8_cure 23 = .ok (.invokevirtual 203, 3) := by decide +kernel
theorem dX8_cure_26 : decode cX8_cure 26 = .ok (.ireturn, 1) := by decide +kernel
theorem dX8_plan_0 : decode cX8_plan 0 = .ok (.iload_n 1, 1) := by decide +kernel
theorem dX8_plan_1 : decode cX8_plan 1 = .ok (.ifCond .lt 16, 3) := by decide +kernel
theorem dX8_plan_4 : decode cX8_plan 4 = .ok (.iload_n 1, 1) := by decide +kernel
theorem dX8_plan_5 : decode cX8_plan 5 = .ok (.bipush 20, 2) := by decide +kernel
theorem dX8_plan_7 : decode cX8_plan 7 = .ok (.if_icmp .gt 10, 3) := by decide +kernel
theorem dX8_plan_10 : decode cX8_plan 10 = .ok (.iload_n 2, 1) := by decide +kernel
theorem dX8_plan_11 : decode cX8_plan 11 = .ok (.invokestatic 188, 3) := by decide +kernel
theorem dX8_plan_14 : decode cX8_plan 14 = .ok (.ifCond .ne 6, 3) := by decide +kernel
theorem dX8_plan_17 : decode cX8_plan 17 = .ok (.bipush (-2), 2) := by decide +kernel
theorem dX8_plan_19 : decode cX8_plan 19 = .ok (.ireturn, 1) := by decide +kernel
theorem dX8_plan_20 : decode cX8_plan 20 = .ok (.aload_n 0, 1) := by decide +kernel
theorem dX8_plan_21 : decode cX8_plan 21 = .ok (.getfield 51, 3) := by decide +kernel
theorem dX8_plan_24 : decode cX8_plan 24 = .ok (.iload_n 1, 1) := by decide +kernel
theorem dX8_plan_25 : decode cX8_plan 25 = .ok (.invokevirtual 207, 3) := by decide +kernel
theorem dX8_plan_28 : decode cX8_plan 28 = .ok (.istore_n 3, 1) := by decide +kernel
theorem dX8_plan_29 : decode cX8_plan 29 = .ok (.iload_n 3, 1) := by decide +kernel
theorem dX8_plan_30 : decode cX8_plan 30 = .ok (.bipush (-9), 2) := by decide +kernel
theorem dX8_plan_32 : decode cX8_plan 32 = .ok (.if_icmp .ne 6, 3) := by decide +kernel
theorem dX8_plan_35 : decode cX8_plan 35 = .ok (.bipush (-9), 2) := by decide +kernel
theorem dX8_plan_37 : decode cX8_plan 37 = .ok (.ireturn, 1) := by decide +kernel
theorem dX8_plan_38 : decode cX8_plan 38 = .ok (.iload_n 2, 1) := by decide +kernel
theorem dX8_plan_39 : decode cX8_plan 39 = .ok (.ifCond .ne 14, 3) := by decide +kernel
theorem dX8_plan_42 : decode cX8_plan 42 = .ok (.aload_n 0, 1) := by decide +kernel
theorem dX8_plan_43 : decode cX8_plan 43 = .ok (.getfield 51, 3) := by decide +kernel
theorem dX8_plan_46 : decode cX8_plan 46 = .ok (.iload_n 3, 1) := by decide +kernel
theorem dX8_plan_47 : decode cX8_plan 47 = .ok (.invokevirtual 210, 3) := by decide +kernel
theorem dX8_plan_50 : decode cX8_plan 50 = .ok (.goto 11, 3) := by decide +kernel
theorem dX8_plan_53 : decode cX8_plan 53 = .ok (.aload_n 0, 1) := by decide +kernel
theorem dX8_plan_54 : decode cX8_plan 54 = .ok (.getfield 51, 3) := by decide +kernel
theorem dX8_plan_57 : decode cX8_plan 57 = .ok (.iload_n 3, 1) := by decide +kernel
theorem dX8_plan_58 : decode cX8_plan 58 = .ok (.invokevirtual 213, 3) := by decide +kernel
theorem dX8_plan_61 : decode cX8_plan 61 = .ok (.ireturn, 1) := by decide +kernel
theorem dX8_judge_0 : decode cX8_judge 0 = .ok (.iload_n 1, 1) := by decide +kernel
theorem dX8_judge_1 : decode cX8_judge 1 = .ok (.iconst 1, 1) := by decide +kernel
theorem dX8_judge_2 : decode cX8_judge 2 = .ok (.if_icmp .lt 29, 3) := by decide +kernel
theorem dX8_judge_5 : decode cX8_judge 5 = .ok (.iload_n 1, 1) := by decide +kernel
theorem dX8_judge_6 : decode cX8_judge 6 = .ok (.getstatic 216, 3) := by decide +kernel
theorem dX8_judge_9 : decode cX8_judge 9 = .ok (.arraylength, 1) := by decide +kernel
theorem dX8_judge_10 : decode cX8_judge 10 = .ok (.if_icmp .gt 21, 3) := by decide +kernel
theorem dX8_judge_13 : decode cX8_judge 13 = .ok (.lload_n 2, 1) := by decide +kernel
theorem dX8_judge_14 : decode cX8_judge 14 = .ok (.lconst 0, 1) := by decide +kernel
theorem dX8_judge_15 : decode cX8_judge 15 = .ok (.lcmp, 1) := by decide +kernel
theorem dX8_judge_16 : decode cX8_judge 16 = .ok (.ifCond .lt 15, 3) := by decide +kernel
theorem dX8_judge_19 : decode cX8_judge 19 = .ok (.lload_n 2, 1) := by decide +kernel
theorem dX8_judge_20 : decode cX8_judge 20 = .ok (.getstatic 216, 3) := by decide +kernel
theorem dX8_judge_23 : decode cX8_judge 23 = .ok (.iload_n 1, 1) := by decide +kernel
theorem dX8_judge_24 : decode cX8_judge 24 = .ok (.iconst 1, 1) := by decide +kernel
theorem dX8_judge_25 : decode cX8_judge 25 = .ok (.isub, 1) := by decide +kernel
theorem dX8_judge_26 : decode cX8_judge 26 = .ok (.laload, 1) := by decide +kernel
theorem dX8_judge_27 : decode cX8_judge 27 = .ok (.lcmp, 1) := by decide +kernel
theorem dX8_judge_28 : decode cX8_judge 28 = .ok (.ifCond .lt 6, 3) := by decide +kernel
theorem dX8_judge_31 : decode cX8_judge 31 = .ok (.bipush (-2), 2) := by decide +kernel
theorem dX8_judge_33 : decode cX8_judge 33 = .ok (.ireturn, 1) := by decide +kernel
theorem dX8_judge_34 : decode cX8_judge 34 = .ok (.aload_n 0, 1) := by decide +kernel
theorem dX8_judge_35 : decode cX8_judge 35 = .ok (.getfield 51, 3) := by decide +kernel
theorem dX8_judge_38 : decode cX8_judge 38 = .ok (.iload_n 1, 1) := by decide +kernel
theorem dX8_judge_39 : decode cX8_judge 39 = .ok (.lload_n 2, 1) := by decide +kernel
theorem dX8_judge_40 : decode cX8_judge 40 = .ok (.invokevirtual 219, 3) := by decide +kernel
theorem dX8_judge_43 : decode cX8_judge 43 = .ok (.ireturn, 1) := by decide +kernel
theorem dX8_share_0 : decode cX8_share 0 = .ok (.aload_n 0, 1) := by decide +kernel
theorem dX8_share_1 : decode cX8_share 1 = .ok (.getfield 26, 3) := by decide +kernel
theorem dX8_share_4 : decode cX8_share 4 = .ok (.iload_n 1, 1) := by decide +kernel
theorem dX8_share_5 : decode cX8_share 5 = .ok (.invokevirtual 130, 3) := by decide +kernel
theorem dX8_share_8 : decode cX8_share 8 = .ok (.ifCond .ne 5, 3) := by decide +kernel
theorem dX8_share_11 : decode cX8_share 11 = .ok (.iconst (-1), 1) := by decide +kernel
theorem dX8_share_12 : decode cX8_share 12 = .ok (.ireturn, 1) := by decide +kernel
theorem dX8_share_13 : decode cX8_share 13 = .ok (.aload_n 0, 1) := by decide +kernel
theorem dX8_share_14 : decode cX8_share 14 = .ok (.getfield 26, 3) := by decide +kernel
theorem dX8_share_17 : decode cX8_share 17 = .ok (.invokevirtual 105, 3) := by decide +kernel
theorem dX8_share_20 : decode cX8_share 20 = .ok (.invokestatic 223, 3) := by decide +kernel
theorem dX8_share_23 : decode cX8_share 23 = .ok (.istore_n 3, 1) := by decide +kernel
theorem dX8_share_24 : decode cX8_share 24 = .ok (.aload_n 0, 1) := by decide +kernel
theorem dX8_share_25 : decode cX8_share 25 = .ok (.getfield 51, 3) := by decide +kernel
theorem dX8_share_28 : decode cX8_share 28 = .ok (.iload_n 1, 1) := by decide +kernel
theorem dX8_share_29 : decode cX8_share 29 = .ok (.invokevirtual 226, 3) := by decide +kernel
theorem dX8_share_32 : decode cX8_share 32 = .ok (.iload_n 3, 1) := by decide +kernel
theorem dX8_share_33 : decode cX8_share 33 = .ok (.iload_n 2, 1) := by decide +kernel
theorem dX8_share_34 : decode cX8_share 34 = .ok (.invokestatic 229, 3) := by decide +kernel
theorem dX8_share_37 : decode cX8_share 37 = .ok (.ireturn, 1) := by decide +kernel
theorem dX8_attempt_0 : decode cX8_attempt 0 = .ok (.iload_n 1, 1) := by decide +kernel
theorem dX8_attempt_1 : decode cX8_attempt 1 = .ok (.ifCond .lt 26, 3) := by decide +kernel
theorem dX8_attempt_4 : decode cX8_attempt 4 = .ok (.iload_n 1, 1) := by decide +kernel
theorem dX8_attempt_5 : decode cX8_attempt 5 = .ok (.iconst 3, 1) := by decide +kernel
theorem dX8_attempt_6 : decode cX8_attempt 6 = .ok (.if_icmp .gt 21, 3) := by decide +kernel
theorem dX8_attempt_9 : decode cX8_attempt 9 = .ok (.iload_n 2, 1) := by decide +kernel
theorem dX8_attempt_10 : decode cX8_attempt 10 = .ok (.iconst 1, 1) := by decide +kernel
theorem dX8_attempt_11 : decode cX8_attempt 11 = .ok (.if_icmp .lt 16, 3) := by decide +kernel
theorem dX8_attempt_14 : decode cX8_attempt 14 = .ok (.iload_n 2, 1) := by decide +kernel
theorem dX8_attempt_15 : decode cX8_attempt 15 = .ok (.bipush 9, 2) := by decide +kernel
theorem dX8_attempt_17 : decode cX8_attempt 17 = .ok (.if_icmp .gt 10, 3) := by decide +kernel
theorem dX8_attempt_20 : decode cX8_attempt 20 = .ok (.iload_n 3, 1) := by decide +kernel
theorem dX8_attempt_21 : decode cX8_attempt 21 = .ok (.invokestatic 188, 3) := by decide +kernel
theorem dX8_attempt_24 : decode cX8_attempt 24 = .ok (.ifCond .ne 6, 3) := by decide +kernel
theorem dX8_attempt_27 : decode cX8_attempt 27 = .ok (.bipush (-2), 2) := by decide +kernel
theorem dX8_attempt_29 : decode cX8_attempt 29 = .ok (.ireturn, 1) := by decide +kernel
theorem dX8_attempt_30 : decode cX8_attempt 30 = .ok (.aload_n 0, 1) := by decide +kernel
theorem dX8_attempt_31 : decode cX8_attempt 31 = .ok (.getfield 65, 3) := by decide +kernel
theorem dX8_attempt_34 : decode cX8_attempt 34 = .ok (.invokevirtual 129, 3) := by decide +kernel
theorem dX8_attempt_37 : decode cX8_attempt 37 = .ok (.bipush 6, 2) := by decide +kernel
theorem dX8_attempt_39 : decode cX8_attempt 39 = .ok (.if_icmp .lt 6, 3) := by decide +kernel
theorem dX8_attempt_42 : decode cX8_attempt 42 = .ok (.bipush (-4), 2) := by decide +kernel
theorem dX8_attempt_44 : decode cX8_attempt 44 = .ok (.ireturn, 1) := by decide +kernel
theorem dX8_attempt_45 : decode cX8_attempt 45 = .ok (.aload_n 0, 1) := by decide +kernel
theorem dX8_attempt_46 : decode cX8_attempt 46 = .ok (.getfield 65, 3) := by decide +kernel
theorem dX8_attempt_49 : decode cX8_attempt 49 = .ok (.iload_n 1, 1) := by decide +kernel
theorem dX8_attempt_50 : decode cX8_attempt 50 = .ok (.iload_n 2, 1) := by decide +kernel
theorem dX8_attempt_51 : decode cX8_attempt 51 = .ok (.iload_n 3, 1) := by decide +kernel
theorem dX8_attempt_52 : decode cX8_attempt 52 = .ok (.iconst 1, 1) := by decide +kernel
theorem dX8_attempt_53 : decode cX8_attempt 53 = .ok (.if_icmp .ne 7, 3) := by decide +kernel
theorem dX8_attempt_56 : decode cX8_attempt 56 = .ok (.iconst 1, 1) := by decide +kernel
theorem dX8_attempt_57 : decode cX8_attempt 57 = .ok (.goto 4, 3) := by decide +kernel
theorem dX8_attempt_60 : decode cX8_attempt 60 = .ok (.iconst 0, 1) := by decide +kernel
theorem dX8_attempt_61 : decode cX8_attempt 61 = .ok (.invokevirtual 233, 3) := by decide +kernel
theorem dX8_attempt_64 : decode cX8_attempt 64 = .ok (.aload_n 0, 1) := by decide +kernel
theorem dX8_attempt_65 : decode cX8_attempt 65 = .ok (.getfield 65, 3) := by decide +kernel
theorem dX8_attempt_68 : decode cX8_attempt 68 = .ok (.invokevirtual 129, 3) := by decide +kernel
theorem dX8_attempt_71 : decode cX8_attempt 71 = .ok (.ireturn, 1) := by decide +kernel
theorem dX8_unattempt_0 : decode cX8_unattempt 0 = .ok (.aload_n 0, 1) := by decide +kernel
theorem dX8_unattempt_1 : decode cX8_unattempt 1 = .ok (.getfield 65, 3) := by decide +kernel
theorem dX8_unattempt_4 : decode cX8_unattempt 4 = .ok (.invokevirtual 129, 3) := by decide +kernel
theorem dX8_unattempt_7 : decode cX8_unattempt 7 = .ok (.istore_n 1, 1) := by decide +kernel
theorem dX8_unattempt_8 : decode cX8_unattempt 8 = .ok (.aload_n 0, 1) := by decide +kernel
theorem dX8_unattempt_9 : decode cX8_unattempt 9 = .ok (.getfield 65, 3) := by decide +kernel
theorem dX8_unattempt_12 : decode cX8_unattempt 12 = .ok (.invokevirtual 237, 3) := by decide +kernel
theorem dX8_unattempt_15 : decode cX8_unattempt 15 = .ok (.iload_n 1, 1) := by decide +kernel
theorem dX8_unattempt_16 : decode cX8_unattempt 16 = .ok (.ireturn, 1) := by decide +kernel
theorem dX8_paces_0 : decode cX8_paces 0 = .ok (.iload_n 1, 1) := by decide +kernel
theorem dX8_paces_1 : decode cX8_paces 1 = .ok (.invokestatic 188, 3) := by decide +kernel
theorem dX8_paces_4 : decode cX8_paces 4 = .ok (.ifCond .ne 6, 3) := by decide +kernel
theorem dX8_paces_7 : decode cX8_paces 7 = .ok (.bipush (-2), 2) := by decide +kernel
theorem dX8_paces_9 : decode cX8_paces 9 = .ok (.ireturn, 1) := by decide +kernel
theorem dX8_paces_10 : decode cX8_paces 10 = .ok (.iload_n 1, 1) := by decide +kernel
theorem dX8_paces_11 : decode cX8_paces 11 = .ok (.ifCond .ne 13, 3) := by decide +kernel
theorem dX8_paces_14 : decode cX8_paces 14 = .ok (.aload_n 0, 1) := by decide +kernel
theorem dX8_paces_15 : decode cX8_paces 15 = .ok (.getfield 65, 3) := by decide +kernel
theorem dX8_paces_18 : decode cX8_paces 18 = .ok (.invokevirtual 238, 3) := by decide +kernel
theorem dX8_paces_21 : decode cX8_paces 21 = .ok (.goto 10, 3) := by decide +kernel
theorem dX8_paces_24 : decode cX8_paces 24 = .ok (.aload_n 0, 1) := by decide +kernel
theorem dX8_paces_25 : decode cX8_paces 25 = .ok (.getfield 65, 3) := by decide +kernel
theorem dX8_paces_28 : decode cX8_paces 28 = .ok (.invokevirtual 241, 3) := by decide +kernel
theorem dX8_paces_31 : decode cX8_paces 31 = .ok (.ireturn, 1) := by decide +kernel
theorem dX8_rests_0 : decode cX8_rests 0 = .ok (.aload_n 0, 1) := by decide +kernel
theorem dX8_rests_1 : decode cX8_rests 1 = .ok (.getfield 26, 3) := by decide +kernel
theorem dX8_rests_4 : decode cX8_rests 4 = .ok (.iload_n 1, 1) := by decide +kernel
theorem dX8_rests_5 : decode cX8_rests 5 = .ok (.invokevirtual 130, 3) := by decide +kernel
theorem dX8_rests_8 : decode cX8_rests 8 = .ok (.ifCond .eq 14, 3) := by decide +kernel
theorem dX8_rests_11 : decode cX8_rests 11 = .ok (.aload_n 0, 1) := by decide +kernel
theorem dX8_rests_12 : decode cX8_rests 12 = .ok (.getfield 26, 3) := by decide +kernel
theorem dX8_rests_15 : decode cX8_rests 15 = .ok (.iload_n 2, 1) := by decide +kernel
theorem dX8_rests_16 : decode cX8_rests 16 = .ok (.invokevirtual 130, 3) := by decide +kernel
theorem dX8_rests_19 : decode cX8_rests 19 = .ok (.ifCond .ne 5, 3) := by decide +kernel
theorem dX8_rests_22 : decode cX8_rests 22 = .ok (.iconst (-1), 1) := by decide +kernel
theorem dX8_rests_23 : decode cX8_rests 23 = .ok (.ireturn, 1) := by decide +kernel
theorem dX8_rests_24 : decode cX8_rests 24 = .ok (.iload_n 1, 1) := by decide +kernel
theorem dX8_rests_25 : decode cX8_rests 25 = .ok (.iload_n 2, 1) := by decide +kernel
theorem dX8_rests_26 : decode cX8_rests 26 = .ok (.if_icmp .eq 10, 3) := by decide +kernel
theorem dX8_rests_29 : decode cX8_rests 29 = .ok (.iload_n 3, 1) := by decide +kernel
theorem dX8_rests_30 : decode cX8_rests 30 = .ok (.invokestatic 188, 3) := by decide +kernel
theorem dX8_rests_33 : decode cX8_rests 33 = .ok (.ifCond .ne 6, 3) := by decide +kernel
theorem dX8_rests_36 : decode cX8_rests 36 = .ok (.bipush (-2), 2) := by decide +kernel
theorem dX8_rests_38 : decode cX8_rests 38 = .ok (.ireturn, 1) := by decide +kernel
theorem dX8_rests_39 : decode cX8_rests 39 = .ok (.aload_n 0, 1) := by decide +kernel
theorem dX8_rests_40 : decode cX8_rests 40 = .ok (.getfield 58, 3) := by decide +kernel
theorem dX8_rests_43 : decode cX8_rests 43 = .ok (.iload_n 1, 1) := by decide +kernel
theorem dX8_rests_44 : decode cX8_rests 44 = .ok (.iload_n 2, 1) := by decide +kernel
theorem dX8_rests_45 : decode cX8_rests 45 = .ok (.invokevirtual 244, 3) := by decide +kernel
theorem dX8_rests_48 : decode cX8_rests 48 = .ok (.iload_n 3, 1) := by decide +kernel
theorem dX8_rests_49 : decode cX8_rests 49 = .ok (.ifCond .ne 13, 3) := by decide +kernel
theorem dX8_rests_52 : decode cX8_rests 52 = .ok (.aload_n 0, 1) := by decide +kernel
theorem dX8_rests_53 : decode cX8_rests 53 = .ok (.getfield 58, 3) := by decide +kernel
theorem dX8_rests_56 : decode cX8_rests 56 = .ok (.invokevirtual 248, 3) := by decide +kernel
theorem dX8_rests_59 : decode cX8_rests 59 = .ok (.goto 10, 3) := by decide +kernel
theorem dX8_rests_62 : decode cX8_rests 62 = .ok (.aload_n 0, 1) := by decide +kernel
theorem dX8_rests_63 : decode cX8_rests 63 = .ok (.getfield 58, 3) := by decide +kernel
theorem dX8_rests_66 : decode cX8_rests 66 = .ok (.invokevirtual 251, 3) := by decide +kernel
theorem dX8_rests_69 : decode cX8_rests 69 = .ok (.ireturn, 1) := by decide +kernel
theorem dX8_thorny_0 : decode cX8_thorny 0 = .ok (.iload_n 1, 1) := by decide +kernel
theorem dX8_thorny_1 : decode cX8_thorny 1 = .ok (.ifCond .lt 19, 3) := by decide +kernel
theorem dX8_thorny_4 : decode cX8_thorny 4 = .ok (.iload_n 1, 1) := by decide +kernel
theorem dX8_thorny_5 : decode cX8_thorny 5 = .ok (.bipush 20, 2) := by decide +kernel
theorem dX8_thorny_7 : decode cX8_thorny 7 = .ok (.if_icmp .gt 13, 3) := by decide +kernel
theorem dX8_thorny_10 : decode cX8_thorny 10 = .ok (.iload_n 2, 1) := by decide +kernel
theorem dX8_thorny_11 : decode cX8_thorny 11 = .ok (.ifCond .lt 9, 3) := by decide +kernel
theorem dX8_thorny_14 : decode cX8_thorny 14 = .ok (.iload_n 2, 1) := by decide +kernel
theorem dX8_thorny_15 : decode cX8_thorny 15 = .ok (.bipush 10, 2) := by decide +kernel
theorem dX8_thorny_17 : decode cX8_thorny 17 = .ok (.if_icmp .le 6, 3) := by decide +kernel
theorem dX8_thorny_20 : decode cX8_thorny 20 = .ok (.bipush (-2), 2) := by decide +kernel
theorem dX8_thorny_22 : decode cX8_thorny 22 = .ok (.ireturn, 1) := by decide +kernel
theorem dX8_thorny_23 : decode cX8_thorny 23 = .ok (.bipush 10, 2) := by decide +kernel
theorem dX8_thorny_25 : decode cX8_thorny 25 = .ok (.aload_n 0, 1) := by decide +kernel
theorem dX8_thorny_26 : decode cX8_thorny 26 = .ok (.getfield 26, 3) := by decide +kernel
theorem dX8_thorny_29 : decode cX8_thorny 29 = .ok (.invokevirtual 105, 3) := by decide +kernel
theorem dX8_thorny_32 : decode cX8_thorny 32 = .ok (.invokestatic 254, 3) := by decide +kernel
theorem dX8_thorny_35 : decode cX8_thorny 35 = .ok (.istore 4, 2) := by decide +kernel
theorem dX8_thorny_37 : decode cX8_thorny 37 = .ok (.aload_n 0, 1) := by decide +kernel
theorem dX8_thorny_38 : decode cX8_thorny 38 = .ok (.getfield 58, 3) := by decide +kernel
theorem dX8_thorny_41 : decode cX8_thorny 41 = .ok (.iload_n 1, 1) := by decide +kernel
theorem dX8_thorny_42 : decode cX8_thorny 42 = .ok (.iload_n 2, 1) := by decide +kernel
theorem dX8_thorny_43 : decode cX8_thorny 43 = .ok (.invokevirtual 258, 3) := by decide +kernel
theorem dX8_thorny_46 : decode cX8_thorny 46 = .ok (.iload 4, 2) := by decide +kernel
theorem dX8_thorny_48 : decode cX8_thorny 48 = .ok (.iload_n 3, 1) := by decide +kernel
theorem dX8_thorny_49 : decode cX8_thorny 49 = .ok (.invokestatic 229, 3) := by decide +kernel
theorem dX8_thorny_52 : decode cX8_thorny 52 = .ok (.ireturn, 1) := by decide +kernel
theorem dX8_seed_0 : decode cX8_seed 0 = .ok (.aload_n 0, 1) := by decide +kernel
theorem dX8_seed_1 : decode cX8_seed 1 = .ok (.getfield 75, 3) := by decide +kernel
theorem dX8_seed_4 : decode cX8_seed 4 = .ok (.lstore_n 3, 1) := by decide +kernel
theorem dX8_seed_5 : decode cX8_seed 5 = .ok (.aload_n 0, 1) := by decide +kernel
theorem dX8_seed_6 : decode cX8_seed 6 = .ok (.lload_n 1, 1) := by decide +kernel
theorem dX8_seed_7 : decode cX8_seed 7 = .ok (.putfield 75, 3) := by decide +kernel
theorem dX8_seed_10 : decode cX8_seed 10 = .ok (.lload_n 3, 1) := by decide +kernel
theorem dX8_seed_11 : decode cX8_seed 11 = .ok (.lreturn, 1) := by decide +kernel
theorem dX8_campaigns_0 : decode cX8_campaigns 0 = .ok (.iload_n 1, 1) := by decide +kernel
theorem dX8_campaigns_1 : decode cX8_campaigns 1 = .ok (.iconst 1, 1) := by decide +kernel
theorem dX8_campaigns_2 : decode cX8_campaigns 2 = .ok (.if_icmp .lt 9, 3) := by decide +kernel
theorem dX8_campaigns_5 : decode cX8_campaigns 5 = .ok (.iload_n 1, 1) := by decide +kernel
theorem dX8_campaigns_6 : decode cX8_campaigns 6 = .ok (.bipush 30, 2) := by decide +kernel
theorem dX8_campaigns_8 : decode cX8_campaigns 8 = .ok (.if_icmp .le 6, 3) := by decide +kernel
theorem dX8_campaigns_11 : decode cX8_campaigns 11 = .ok (.bipush (-2), 2) := by decide +kernel
theorem dX8_campaigns_13 : decode cX8_campaigns 13 = .ok (.ireturn, 1) := by decide +kernel
theorem dX8_campaigns_14 : decode cX8_campaigns 14 = .ok (.iconst 0, 1) := by decide +kernel
theorem dX8_campaigns_15 : decode cX8_campaigns 15 = .ok (.istore_n 2, 1) := by decide +kernel
theorem dX8_campaigns_16 : decode cX8_campaigns 16 = .ok (.aload_n 0, 1) := by decide +kernel
theorem dX8_campaigns_17 : decode cX8_campaigns 17 = .ok (.getfield 58, 3) := by decide +kernel
theorem dX8_campaigns_20 : decode cX8_campaigns 20 = .ok (.invokevirtual 261, 3) := by decide +kernel
theorem dX8_campaigns_23 : decode cX8_campaigns 23 = .ok (.iconst 0, 1) := by decide +kernel
theorem dX8_campaigns_24 : decode cX8_campaigns 24 = .ok (.istore_n 3, 1) := by decide +kernel
theorem dX8_campaigns_25 : decode cX8_campaigns 25 = .ok (.iload_n 3, 1) := by decide +kernel
theorem dX8_campaigns_26 : decode cX8_campaigns 26 = .ok (.iload_n 1, 1) := by decide +kernel
theorem dX8_campaigns_27 : decode cX8_campaigns 27 = .ok (.if_icmp .ge 47, 3) := by decide +kernel
theorem dX8_campaigns_30 : decode cX8_campaigns 30 = .ok (.aload_n 0, 1) := by decide +kernel
theorem dX8_campaigns_31 : decode cX8_campaigns 31 = .ok (.aload_n 0, 1) := by decide +kernel
theorem dX8_campaigns_32 : decode cX8_campaigns 32 = .ok (.getfield 75, 3) := by decide +kernel
theorem dX8_campaigns_35 : decode cX8_campaigns 35 = .ok (.ldc2_w 264, 3) := by decide +kernel
theorem dX8_campaigns_38 : decode cX8_campaigns 38 = .ok (.lmul, 1) := by decide +kernel
theorem dX8_campaigns_39 : decode cX8_campaigns 39 = .ok (.ldc2_w 266, 3) := by decide +kernel
theorem dX8_campaigns_42 : decode cX8_campaigns 42 = .ok (.ladd, 1) := by decide +kernel
theorem dX8_campaigns_43 : decode cX8_campaigns 43 = .ok (.putfield 75, 3) := by decide +kernel
theorem dX8_campaigns_46 : decode cX8_campaigns 46 = .ok (.iload_n 2, 1) := by decide +kernel
theorem dX8_campaigns_47 : decode cX8_campaigns 47 = .ok (.aload_n 0, 1) := by decide +kernel
theorem dX8_campaigns_48 : decode cX8_campaigns 48 = .ok (.getfield 58, 3) := by decide +kernel
theorem dX8_campaigns_51 : decode cX8_campaigns 51 = .ok (.aload_n 0, 1) := by decide +kernel
theorem dX8_campaigns_52 : decode cX8_campaigns 52 = .ok (.getfield 75, 3) := by decide +kernel
theorem dX8_campaigns_55 : decode cX8_campaigns 55 = .ok (.bipush 33, 2) := by decide +kernel
theorem dX8_campaigns_57 : decode cX8_campaigns 57 = .ok (.lushr, 1) := by decide +kernel
theorem dX8_campaigns_58 : decode cX8_campaigns 58 = .ok (.ldc2_w 268, 3) := by decide +kernel
theorem dX8_campaigns_61 : decode cX8_campaigns 61 = .ok (.lrem, 1) := by decide +kernel
theorem dX8_campaigns_62 : decode cX8_campaigns 62 = .ok (.l2i, 1) := by decide +kernel
theorem dX8_campaigns_63 : decode cX8_campaigns 63 = .ok (.invokevirtual 270, 3) := by decide +kernel
theorem dX8_campaigns_66 : decode cX8_campaigns 66 = .ok (.iadd, 1) := by decide +kernel
theorem dX8_campaigns_67 : decode cX8_campaigns 67 = .ok (.istore_n 2, 1) := by decide +kernel
theorem dX8_campaigns_68 : decode cX8_campaigns 68 = .ok (.iinc 3 1, 3) := by decide +kernel
theorem dX8_campaigns_71 : decode cX8_campaigns 71 = .ok (.goto (-46), 3) := by decide +kernel
theorem dX8_campaigns_74 : decode cX8_campaigns 74 = .ok (.iload_n 2, 1) := by decide +kernel
theorem dX8_campaigns_75 : decode cX8_campaigns 75 = .ok (.ireturn, 1) := by decide +kernel
theorem dX8_keep_0 : decode cX8_keep 0 = .ok (.iload_n 1, 1) := by decide +kernel
theorem dX8_keep_1 : decode cX8_keep 1 = .ok (.ifCond .lt 12, 3) := by decide +kernel
theorem dX8_keep_4 : decode cX8_keep 4 = .ok (.iload_n 1, 1) := by decide +kernel
theorem dX8_keep_5 : decode cX8_keep 5 = .ok (.aload_n 0, 1) := by decide +kernel
theorem dX8_keep_6 : decode cX8_keep 6 = .ok (.getfield 71, 3) := by decide +kernel
theorem dX8_keep_9 : decode cX8_keep 9 = .ok (.arraylength, 1) := by decide +kernel
theorem dX8_keep_10 : decode cX8_keep 10 = .ok (.if_icmp .lt 5, 3) := by decide +kernel
theorem dX8_keep_13 : decode cX8_keep 13 = .ok (.iconst (-1), 1) := by decide +kernel
theorem dX8_keep_14 : decode cX8_keep 14 = .ok (.ireturn, 1) := by decide +kernel
theorem dX8_keep_15 : decode cX8_keep 15 = .ok (.aload_n 0, 1) := by decide +kernel
theorem dX8_keep_16 : decode cX8_keep 16 = .ok (.getfield 71, 3) := by decide +kernel
theorem dX8_keep_19 : decode cX8_keep 19 = .ok (.iload_n 1, 1) := by decide +kernel
theorem dX8_keep_20 : decode cX8_keep 20 = .ok (.aload_n 0, 1) := by decide +kernel
theorem dX8_keep_21 : decode cX8_keep 21 = .ok (.getfield 35, 3) := by decide +kernel
theorem dX8_keep_24 : decode cX8_keep 24 = .ok (.invokevirtual 156, 3) := by decide +kernel
theorem dX8_keep_27 : decode cX8_keep 27 = .ok (.lastore, 1) := by decide +kernel
theorem dX8_keep_28 : decode cX8_keep 28 = .ok (.aload_n 0, 1) := by decide +kernel
theorem dX8_keep_29 : decode cX8_keep 29 = .ok (.getfield 35, 3) := by decide +kernel
theorem dX8_keep_32 : decode cX8_keep 32 = .ok (.invokevirtual 112, 3) := by decide +kernel
theorem dX8_keep_35 : decode cX8_keep 35 = .ok (.ireturn, 1) := by decide +kernel
theorem dX8_again_0 : decode cX8_again 0 = .ok (.iload_n 1, 1) := by decide +kernel
theorem dX8_again_1 : decode cX8_again 1 = .ok (.ifCond .lt 12, 3) := by decide +kernel
theorem dX8_again_4 : decode cX8_again 4 = .ok (.iload_n 1, 1) := by decide +kernel
theorem dX8_again_5 : decode cX8_again 5 = .ok (.aload_n 0, 1) := by decide +kernel
theorem dX8_again_6 : decode cX8_again 6 = .ok (.getfield 71, 3) := by decide +kernel
theorem dX8_again_9 : decode cX8_again 9 = .ok (.arraylength, 1) := by decide +kernel
theorem dX8_again_10 : decode cX8_again 10 = .ok (.if_icmp .lt 5, 3) := by decide +kernel
theorem dX8_again_13 : decode cX8_again 13 = .ok (.iconst (-1), 1) := by decide +kernel
theorem dX8_again_14 : decode cX8_again 14 = .ok (.ireturn, 1) := by decide +kernel
theorem dX8_again_15 : decode cX8_again 15 = .ok (.aload_n 0, 1) := by decide +kernel
theorem dX8_again_16 : decode cX8_again 16 = .ok (.getfield 71, 3) := by decide +kernel
theorem dX8_again_19 : decode cX8_again 19 = .ok (.iload_n 1, 1) := by decide +kernel
