theorem dX9_paces_17 : decode cX9_paces 17 = .ok (.ireturn, 1) := by decide +kernel
theorem dX9_paces_18 : decode cX9_paces 18 = .ok (.aload_n 0, 1) := by decide +kernel
theorem dX9_paces_19 : decode cX9_paces 19 = .ok (.iconst 0, 1) := by decide +kernel
theorem dX9_paces_20 : decode cX9_paces 20 = .ok (.putfield 234, 3) := by decide +kernel
theorem dX9_paces_23 : decode cX9_paces 23 = .ok (.aload_n 0, 1) := by decide +kernel
theorem dX9_paces_24 : decode cX9_paces 24 = .ok (.bipush (-9), 2) := by decide +kernel
theorem dX9_paces_26 : decode cX9_paces 26 = .ok (.putfield 237, 3) := by decide +kernel
theorem dX9_paces_29 : decode cX9_paces 29 = .ok (.iconst 0, 1) := by decide +kernel
theorem dX9_paces_30 : decode cX9_paces 30 = .ok (.istore_n 2, 1) := by decide +kernel
theorem dX9_paces_31 : decode cX9_paces 31 = .ok (.iload_n 2, 1) := by decide +kernel
theorem dX9_paces_32 : decode cX9_paces 32 = .ok (.bipush 27, 2) := by decide +kernel
theorem dX9_paces_34 : decode cX9_paces 34 = .ok (.if_icmp .ge 147, 3) := by decide +kernel
theorem dX9_paces_37 : decode cX9_paces 37 = .ok (.iconst 1, 1) := by decide +kernel
theorem dX9_paces_38 : decode cX9_paces 38 = .ok (.istore_n 3, 1) := by decide +kernel
theorem dX9_paces_39 : decode cX9_paces 39 = .ok (.iconst 0, 1) := by decide +kernel
theorem dX9_paces_40 : decode cX9_paces 40 = .ok (.istore 4, 2) := by decide +kernel
theorem dX9_paces_42 : decode cX9_paces 42 = .ok (.iload 4, 2) := by decide +kernel
theorem dX9_paces_44 : decode cX9_paces 44 = .ok (.aload_n 0, 1) := by decide +kernel
theorem dX9_paces_45 : decode cX9_paces 45 = .ok (.getfield 151, 3) := by decide +kernel
theorem dX9_paces_48 : decode cX9_paces 48 = .ok (.if_icmp .ge 73, 3) := by decide +kernel
theorem dX9_paces_51 : decode cX9_paces 51 = .ok (.iload_n 3, 1) := by decide +kernel
theorem dX9_paces_52 : decode cX9_paces 52 = .ok (.ifCond .eq 61, 3) := by decide +kernel
theorem dX9_paces_55 : decode cX9_paces 55 = .ok (.iload_n 2, 1) := by decide +kernel
theorem dX9_paces_56 : decode cX9_paces 56 = .ok (.bipush 9, 2) := by decide +kernel
theorem dX9_paces_58 : decode cX9_paces 58 = .ok (.irem, 1) := by decide +kernel
theorem dX9_paces_59 : decode cX9_paces 59 = .ok (.iconst 1, 1) := by decide +kernel
theorem dX9_paces_60 : decode cX9_paces 60 = .ok (.iadd, 1) := by decide +kernel
theorem dX9_paces_61 : decode cX9_paces 61 = .ok (.iload_n 2, 1) := by decide +kernel
theorem dX9_paces_62 : decode cX9_paces 62 = .ok (.bipush 9, 2) := by decide +kernel
theorem dX9_paces_64 : decode cX9_paces 64 = .ok (.idiv, 1) := by decide +kernel
theorem dX9_paces_65 : decode cX9_paces 65 = .ok (.aload_n 0, 1) := by decide +kernel
theorem dX9_paces_66 : decode cX9_paces 66 = .ok (.getfield 50, 3) := by decide +kernel
theorem dX9_paces_69 : decode cX9_paces 69 = .ok (.iload 4, 2) := by decide +kernel
theorem dX9_paces_71 : decode cX9_paces 71 = .ok (.iaload, 1) := by decide +kernel
theorem dX9_paces_72 : decode cX9_paces 72 = .ok (.invokestatic 117, 3) := by decide +kernel
theorem dX9_paces_75 : decode cX9_paces 75 = .ok (.aload_n 0, 1) := by decide +kernel
theorem dX9_paces_76 : decode cX9_paces 76 = .ok (.getfield 53, 3) := by decide +kernel
theorem dX9_paces_79 : decode cX9_paces 79 = .ok (.iload 4, 2) := by decide +kernel
theorem dX9_paces_81 : decode cX9_paces 81 = .ok (.iaload, 1) := by decide +kernel
theorem dX9_paces_82 : decode cX9_paces 82 = .ok (.if_icmp .gt 7, 3) := by decide +kernel
theorem dX9_paces_85 : decode cX9_paces 85 = .ok (.iconst 1, 1) := by decide +kernel
theorem dX9_paces_86 : decode cX9_paces 86 = .ok (.goto 4, 3) := by decide +kernel
theorem dX9_paces_89 : decode cX9_paces 89 = .ok (.iconst 0, 1) := by decide +kernel
theorem dX9_paces_90 : decode cX9_paces 90 = .ok (.aload_n 0, 1) := by decide +kernel
theorem dX9_paces_91 : decode cX9_paces 91 = .ok (.getfield 56, 3) := by decide +kernel
theorem dX9_paces_94 : decode cX9_paces 94 = .ok (.iload 4, 2) := by decide +kernel
theorem dX9_paces_96 : decode cX9_paces 96 = .ok (.iaload, 1) := by decide +kernel
theorem dX9_paces_97 : decode cX9_paces 97 = .ok (.iconst 1, 1) := by decide +kernel
theorem dX9_paces_98 : decode cX9_paces 98 = .ok (.if_icmp .ne 7, 3) := by decide +kernel
theorem dX9_paces_101 : decode cX9_paces 101 = .ok (.iconst 1, 1) := by decide +kernel
theorem dX9_paces_102 : decode cX9_paces 102 = .ok (.goto 4, 3) := by decide +kernel
theorem dX9_paces_105 : decode cX9_paces 105 = .ok (.iconst 0, 1) := by decide +kernel
theorem dX9_paces_106 : decode cX9_paces 106 = .ok (.if_icmp .ne 7, 3) := by decide +kernel
theorem dX9_paces_109 : decode cX9_paces 109 = .ok (.iconst 1, 1) := by decide +kernel
theorem dX9_paces_110 : decode cX9_paces 110 = .ok (.goto 4, 3) := by decide +kernel
theorem dX9_paces_113 : decode cX9_paces 113 = .ok (.iconst 0, 1) := by decide +kernel
theorem dX9_paces_114 : decode cX9_paces 114 = .ok (.istore_n 3, 1) := by decide +kernel
theorem dX9_paces_115 : decode cX9_paces 115 = .ok (.iinc 4 1, 3) := by decide +kernel
theorem dX9_paces_118 : decode cX9_paces 118 = .ok (.goto (-76), 3) := by decide +kernel
theorem dX9_paces_121 : decode cX9_paces 121 = .ok (.aload_n 0, 1) := by decide +kernel
theorem dX9_paces_122 : decode cX9_paces 122 = .ok (.iload_n 3, 1) := by decide +kernel
theorem dX9_paces_123 : decode cX9_paces 123 = .ok (.ifCond .eq 27, 3) := by decide +kernel
theorem dX9_paces_126 : decode cX9_paces 126 = .ok (.aload_n 0, 1) := by decide +kernel
theorem dX9_paces_127 : decode cX9_paces 127 = .ok (.getfield 234, 3) := by decide +kernel
theorem dX9_paces_130 : decode cX9_paces 130 = .ok (.ifCond .ne 20, 3) := by decide +kernel
theorem dX9_paces_133 : decode cX9_paces 133 = .ok (.bipush 10, 2) := by decide +kernel
theorem dX9_paces_135 : decode cX9_paces 135 = .ok (.iload_n 2, 1) := by decide +kernel
theorem dX9_paces_136 : decode cX9_paces 136 = .ok (.bipush 9, 2) := by decide +kernel
theorem dX9_paces_138 : decode cX9_paces 138 = .ok (.idiv, 1) := by decide +kernel
theorem dX9_paces_139 : decode cX9_paces 139 = .ok (.imul, 1) := by decide +kernel
theorem dX9_paces_140 : decode cX9_paces 140 = .ok (.iload_n 2, 1) := by decide +kernel
theorem dX9_paces_141 : decode cX9_paces 141 = .ok (.bipush 9, 2) := by decide +kernel
theorem dX9_paces_143 : decode cX9_paces 143 = .ok (.irem, 1) := by decide +kernel
theorem dX9_paces_144 : decode cX9_paces 144 = .ok (.iadd, 1) := by decide +kernel
theorem dX9_paces_145 : decode cX9_paces 145 = .ok (.iconst 1, 1) := by decide +kernel
theorem dX9_paces_146 : decode cX9_paces 146 = .ok (.iadd, 1) := by decide +kernel
theorem dX9_paces_147 : decode cX9_paces 147 = .ok (.goto 7, 3) := by decide +kernel
theorem dX9_paces_150 : decode cX9_paces 150 = .ok (.aload_n 0, 1) := by decide +kernel
theorem dX9_paces_151 : decode cX9_paces 151 = .ok (.getfield 237, 3) := by decide +kernel
theorem dX9_paces_154 : decode cX9_paces 154 = .ok (.putfield 237, 3) := by decide +kernel
theorem dX9_paces_157 : decode cX9_paces 157 = .ok (.aload_n 0, 1) := by decide +kernel
theorem dX9_paces_158 : decode cX9_paces 158 = .ok (.dup, 1) := by decide +kernel
theorem dX9_paces_159 : decode cX9_paces 159 = .ok (.getfield 234, 3) := by decide +kernel
theorem dX9_paces_162 : decode cX9_paces 162 = .ok (.iload_n 3, 1) := by decide +kernel
theorem dX9_paces_163 : decode cX9_paces 163 = .ok (.ifCond .eq 7, 3) := by decide +kernel
theorem dX9_paces_166 : decode cX9_paces 166 = .ok (.iconst 1, 1) := by decide +kernel
theorem dX9_paces_167 : decode cX9_paces 167 = .ok (.goto 4, 3) := by decide +kernel
theorem dX9_paces_170 : decode cX9_paces 170 = .ok (.iconst 0, 1) := by decide +kernel
theorem dX9_paces_171 : decode cX9_paces 171 = .ok (.iadd, 1) := by decide +kernel
theorem dX9_paces_172 : decode cX9_paces 172 = .ok (.putfield 234, 3) := by decide +kernel
theorem dX9_paces_175 : decode cX9_paces 175 = .ok (.iinc 2 1, 3) := by decide +kernel
theorem dX9_paces_178 : decode cX9_paces 178 = .ok (.goto (-147), 3) := by decide +kernel
theorem dX9_paces_181 : decode cX9_paces 181 = .ok (.iload_n 1, 1) := by decide +kernel
theorem dX9_paces_182 : decode cX9_paces 182 = .ok (.ifCond .ne 10, 3) := by decide +kernel
theorem dX9_paces_185 : decode cX9_paces 185 = .ok (.aload_n 0, 1) := by decide +kernel
theorem dX9_paces_186 : decode cX9_paces 186 = .ok (.getfield 234, 3) := by decide +kernel
theorem dX9_paces_189 : decode cX9_paces 189 = .ok (.goto 7, 3) := by decide +kernel
theorem dX9_paces_192 : decode cX9_paces 192 = .ok (.aload_n 0, 1) := by decide +kernel
theorem dX9_paces_193 : decode cX9_paces 193 = .ok (.getfield 237, 3) := by decide +kernel
theorem dX9_paces_196 : decode cX9_paces 196 = .ok (.ireturn, 1) := by decide +kernel
theorem dX9_rests_0 : decode cX9_rests 0 = .ok (.aload_n 0, 1) := by decide +kernel
theorem dX9_rests_1 : decode cX9_rests 1 = .ok (.iconst 0, 1) := by decide +kernel
theorem dX9_rests_2 : decode cX9_rests 2 = .ok (.putfield 65, 3) := by decide +kernel
theorem dX9_rests_5 : decode cX9_rests 5 = .ok (.aload_n 0, 1) := by decide +kernel
theorem dX9_rests_6 : decode cX9_rests 6 = .ok (.iload_n 1, 1) := by decide +kernel
theorem dX9_rests_7 : decode cX9_rests 7 = .ok (.invokevirtual 154, 3) := by decide +kernel
theorem dX9_rests_10 : decode cX9_rests 10 = .ok (.ifCond .ne 11, 3) := by decide +kernel
theorem dX9_rests_13 : decode cX9_rests 13 = .ok (.aload_n 0, 1) := by decide +kernel
theorem dX9_rests_14 : decode cX9_rests 14 = .ok (.iload_n 2, 1) := by decide +kernel
theorem dX9_rests_15 : decode cX9_rests 15 = .ok (.invokevirtual 154, 3) := by decide +kernel
theorem dX9_rests_18 : decode cX9_rests 18 = .ok (.ifCond .eq 5, 3) := by decide +kernel
theorem dX9_rests_21 : decode cX9_rests 21 = .ok (.iconst (-1), 1) := by decide +kernel
theorem dX9_rests_22 : decode cX9_rests 22 = .ok (.ireturn, 1) := by decide +kernel
theorem dX9_rests_23 : decode cX9_rests 23 = .ok (.iload_n 1, 1) := by decide +kernel
theorem dX9_rests_24 : decode cX9_rests 24 = .ok (.iload_n 2, 1) := by decide +kernel
theorem dX9_rests_25 : decode cX9_rests 25 = .ok (.if_icmp .eq 13, 3) := by decide +kernel
theorem dX9_rests_28 : decode cX9_rests 28 = .ok (.iload_n 3, 1) := by decide +kernel
theorem dX9_rests_29 : decode cX9_rests 29 = .ok (.i2l, 1) := by decide +kernel
theorem dX9_rests_30 : decode cX9_rests 30 = .ok (.lconst 0, 1) := by decide +kernel
theorem dX9_rests_31 : decode cX9_rests 31 = .ok (.lconst 1, 1) := by decide +kernel
theorem dX9_rests_32 : decode cX9_rests 32 = .ok (.invokestatic 72, 3) := by decide +kernel
theorem dX9_rests_35 : decode cX9_rests 35 = .ok (.ifCond .ne 6, 3) := by decide +kernel
theorem dX9_rests_38 : decode cX9_rests 38 = .ok (.bipush (-2), 2) := by decide +kernel
theorem dX9_rests_40 : decode cX9_rests 40 = .ok (.ireturn, 1) := by decide +kernel
theorem dX9_rests_41 : decode cX9_rests 41 = .ok (.iconst 0, 1) := by decide +kernel
theorem dX9_rests_42 : decode cX9_rests 42 = .ok (.istore 4, 2) := by decide +kernel
theorem dX9_rests_44 : decode cX9_rests 44 = .ok (.iload 4, 2) := by decide +kernel
theorem dX9_rests_46 : decode cX9_rests 46 = .ok (.iconst 4, 1) := by decide +kernel
theorem dX9_rests_47 : decode cX9_rests 47 = .ok (.if_icmp .ge 135, 3) := by decide +kernel
theorem dX9_rests_50 : decode cX9_rests 50 = .ok (.aload_n 0, 1) := by decide +kernel
theorem dX9_rests_51 : decode cX9_rests 51 = .ok (.invokevirtual 169, 3) := by decide +kernel
theorem dX9_rests_54 : decode cX9_rests 54 = .ok (.iload 4, 2) := by decide +kernel
theorem dX9_rests_56 : decode cX9_rests 56 = .ok (.iconst 1, 1) := by decide +kernel
theorem dX9_rests_57 : decode cX9_rests 57 = .ok (.if_icmp .le 11, 3) := by decide +kernel
theorem dX9_rests_60 : decode cX9_rests 60 = .ok (.aload_n 0, 1) := by decide +kernel
theorem dX9_rests_61 : decode cX9_rests 61 = .ok (.getfield 34, 3) := by decide +kernel
theorem dX9_rests_64 : decode cX9_rests 64 = .ok (.iload_n 1, 1) := by decide +kernel
theorem dX9_rests_65 : decode cX9_rests 65 = .ok (.invokestatic 139, 3) := by decide +kernel
theorem dX9_rests_68 : decode cX9_rests 68 = .ok (.iload 4, 2) := by decide +kernel
theorem dX9_rests_70 : decode cX9_rests 70 = .ok (.iconst 2, 1) := by decide +kernel
theorem dX9_rests_71 : decode cX9_rests 71 = .ok (.irem, 1) := by decide +kernel
theorem dX9_rests_72 : decode cX9_rests 72 = .ok (.iconst 1, 1) := by decide +kernel
theorem dX9_rests_73 : decode cX9_rests 73 = .ok (.if_icmp .ne 11, 3) := by decide +kernel
theorem dX9_rests_76 : decode cX9_rests 76 = .ok (.aload_n 0, 1) := by decide +kernel
theorem dX9_rests_77 : decode cX9_rests 77 = .ok (.getfield 34, 3) := by decide +kernel
theorem dX9_rests_80 : decode cX9_rests 80 = .ok (.iload_n 2, 1) := by decide +kernel
theorem dX9_rests_81 : decode cX9_rests 81 = .ok (.invokestatic 139, 3) := by decide +kernel
theorem dX9_rests_84 : decode cX9_rests 84 = .ok (.aload_n 0, 1) := by decide +kernel
theorem dX9_rests_85 : decode cX9_rests 85 = .ok (.iconst 3, 1) := by decide +kernel
theorem dX9_rests_86 : decode cX9_rests 86 = .ok (.bipush 31, 2) := by decide +kernel
theorem dX9_rests_88 : decode cX9_rests 88 = .ok (.invokevirtual 172, 3) := by decide +kernel
theorem dX9_rests_91 : decode cX9_rests 91 = .ok (.aload_n 0, 1) := by decide +kernel
theorem dX9_rests_92 : decode cX9_rests 92 = .ok (.getfield 34, 3) := by decide +kernel
theorem dX9_rests_95 : decode cX9_rests 95 = .ok (.iconst 0, 1) := by decide +kernel
theorem dX9_rests_96 : decode cX9_rests 96 = .ok (.iaload, 1) := by decide +kernel
theorem dX9_rests_97 : decode cX9_rests 97 = .ok (.aload_n 0, 1) := by decide +kernel
theorem dX9_rests_98 : decode cX9_rests 98 = .ok (.getfield 31, 3) := by decide +kernel
theorem dX9_rests_101 : decode cX9_rests 101 = .ok (.iconst 0, 1) := by decide +kernel
theorem dX9_rests_102 : decode cX9_rests 102 = .ok (.iaload, 1) := by decide +kernel
theorem dX9_rests_103 : decode cX9_rests 103 = .ok (.isub, 1) := by decide +kernel
theorem dX9_rests_104 : decode cX9_rests 104 = .ok (.istore 5, 2) := by decide +kernel
theorem dX9_rests_106 : decode cX9_rests 106 = .ok (.aload_n 0, 1) := by decide +kernel
theorem dX9_rests_107 : decode cX9_rests 107 = .ok (.aload_n 0, 1) := by decide +kernel
theorem dX9_rests_108 : decode cX9_rests 108 = .ok (.getfield 34, 3) := by decide +kernel
theorem dX9_rests_111 : decode cX9_rests 111 = .ok (.bipush 31, 2) := by decide +kernel
theorem dX9_rests_113 : decode cX9_rests 113 = .ok (.invokevirtual 133, 3) := by decide +kernel
theorem dX9_rests_116 : decode cX9_rests 116 = .ok (.istore 6, 2) := by decide +kernel
theorem dX9_rests_118 : decode cX9_rests 118 = .ok (.aload_n 0, 1) := by decide +kernel
theorem dX9_rests_119 : decode cX9_rests 119 = .ok (.getfield 59, 3) := by decide +kernel
theorem dX9_rests_122 : decode cX9_rests 122 = .ok (.iconst 2, 1) := by decide +kernel
theorem dX9_rests_123 : decode cX9_rests 123 = .ok (.iload 4, 2) := by decide +kernel
theorem dX9_rests_125 : decode cX9_rests 125 = .ok (.imul, 1) := by decide +kernel
theorem dX9_rests_126 : decode cX9_rests 126 = .ok (.iload 5, 2) := by decide +kernel
theorem dX9_rests_128 : decode cX9_rests 128 = .ok (.iload 6, 2) := by decide +kernel
theorem dX9_rests_130 : decode cX9_rests 130 = .ok (.iload_n 1, 1) := by decide +kernel
theorem dX9_rests_131 : decode cX9_rests 131 = .ok (.if_icmp .ne 7, 3) := by decide +kernel
theorem dX9_rests_134 : decode cX9_rests 134 = .ok (.iconst 4, 1) := by decide +kernel
theorem dX9_rests_135 : decode cX9_rests 135 = .ok (.goto 4, 3) := by decide +kernel
theorem dX9_rests_138 : decode cX9_rests 138 = .ok (.iconst 0, 1) := by decide +kernel
theorem dX9_rests_139 : decode cX9_rests 139 = .ok (.iadd, 1) := by decide +kernel
theorem dX9_rests_140 : decode cX9_rests 140 = .ok (.iload 4, 2) := by decide +kernel
theorem dX9_rests_142 : decode cX9_rests 142 = .ok (.iconst 2, 1) := by decide +kernel
theorem dX9_rests_143 : decode cX9_rests 143 = .ok (.idiv, 1) := by decide +kernel
theorem dX9_rests_144 : decode cX9_rests 144 = .ok (.isub, 1) := by decide +kernel
theorem dX9_rests_145 : decode cX9_rests 145 = .ok (.iastore, 1) := by decide +kernel
theorem dX9_rests_146 : decode cX9_rests 146 = .ok (.aload_n 0, 1) := by decide +kernel
theorem dX9_rests_147 : decode cX9_rests 147 = .ok (.getfield 59, 3) := by decide +kernel
theorem dX9_rests_150 : decode cX9_rests 150 = .ok (.iconst 2, 1) := by decide +kernel
theorem dX9_rests_151 : decode cX9_rests 151 = .ok (.iload 4, 2) := by decide +kernel
theorem dX9_rests_153 : decode cX9_rests 153 = .ok (.imul, 1) := by decide +kernel
theorem dX9_rests_154 : decode cX9_rests 154 = .ok (.iconst 1, 1) := by decide +kernel
theorem dX9_rests_155 : decode cX9_rests 155 = .ok (.iadd, 1) := by decide +kernel
theorem dX9_rests_156 : decode cX9_rests 156 = .ok (.iload 5, 2) := by decide +kernel
theorem dX9_rests_158 : decode cX9_rests 158 = .ok (.iload 6, 2) := by decide +kernel
theorem dX9_rests_160 : decode cX9_rests 160 = .ok (.iload_n 2, 1) := by decide +kernel
theorem dX9_rests_161 : decode cX9_rests 161 = .ok (.if_icmp .ne 7, 3) := by decide +kernel
theorem dX9_rests_164 : decode cX9_rests 164 = .ok (.iconst 4, 1) := by decide +kernel
theorem dX9_rests_165 : decode cX9_rests 165 = .ok (.goto 4, 3) := by decide +kernel
theorem dX9_rests_168 : decode cX9_rests 168 = .ok (.iconst 0, 1) := by decide +kernel
theorem dX9_rests_169 : decode cX9_rests 169 = .ok (.iadd, 1) := by decide +kernel
theorem dX9_rests_170 : decode cX9_rests 170 = .ok (.iload 4, 2) := by decide +kernel
theorem dX9_rests_172 : decode cX9_rests 172 = .ok (.iconst 2, 1) := by decide +kernel
theorem dX9_rests_173 : decode cX9_rests 173 = .ok (.irem, 1) := by decide +kernel
theorem dX9_rests_174 : decode cX9_rests 174 = .ok (.isub, 1) := by decide +kernel
theorem dX9_rests_175 : decode cX9_rests 175 = .ok (.iastore, 1) := by decide +kernel
theorem dX9_rests_176 : decode cX9_rests 176 = .ok (.iinc 4 1, 3) := by decide +kernel
theorem dX9_rests_179 : decode cX9_rests 179 = .ok (.goto (-135), 3) := by decide +kernel
theorem dX9_rests_182 : decode cX9_rests 182 = .ok (.aload_n 0, 1) := by decide +kernel
theorem dX9_rests_183 : decode cX9_rests 183 = .ok (.iconst 0, 1) := by decide +kernel
theorem dX9_rests_184 : decode cX9_rests 184 = .ok (.putfield 240, 3) := by decide +kernel
theorem dX9_rests_187 : decode cX9_rests 187 = .ok (.aload_n 0, 1) := by decide +kernel
theorem dX9_rests_188 : decode cX9_rests 188 = .ok (.bipush (-9), 2) := by decide +kernel
theorem dX9_rests_190 : decode cX9_rests 190 = .ok (.putfield 243, 3) := by decide +kernel
theorem dX9_rests_193 : decode cX9_rests 193 = .ok (.iconst 0, 1) := by decide +kernel
theorem dX9_rests_194 : decode cX9_rests 194 = .ok (.istore 4, 2) := by decide +kernel
theorem dX9_rests_196 : decode cX9_rests 196 = .ok (.iload 4, 2) := by decide +kernel
theorem dX9_rests_198 : decode cX9_rests 198 = .ok (.iconst 4, 1) := by decide +kernel
theorem dX9_rests_199 : decode cX9_rests 199 = .ok (.if_icmp .ge 120, 3) := by decide +kernel
theorem dX9_rests_202 : decode cX9_rests 202 = .ok (.aload_n 0, 1) := by decide +kernel
theorem dX9_rests_203 : decode cX9_rests 203 = .ok (.getfield 59, 3) := by decide +kernel
theorem dX9_rests_206 : decode cX9_rests 206 = .ok (.iconst 2, 1) := by decide +kernel
theorem dX9_rests_207 : decode cX9_rests 207 = .ok (.iload 4, 2) := by decide +kernel
theorem dX9_rests_209 : decode cX9_rests 209 = .ok (.iconst 2, 1) := by decide +kernel
theorem dX9_rests_210 : decode cX9_rests 210 = .ok (.ixor, 1) := by decide +kernel
theorem dX9_rests_211 : decode cX9_rests 211 = .ok (.imul, 1) := by decide +kernel
theorem dX9_rests_212 : decode cX9_rests 212 = .ok (.iaload, 1) := by decide +kernel
theorem dX9_rests_213 : decode cX9_rests 213 = .ok (.aload_n 0, 1) := by decide +kernel
theorem dX9_rests_214 : decode cX9_rests 214 = .ok (.getfield 59, 3) := by decide +kernel
theorem dX9_rests_217 : decode cX9_rests 217 = .ok (.iconst 2, 1) := by decide +kernel
theorem dX9_rests_218 : decode cX9_rests 218 = .ok (.iload 4, 2) := by decide +kernel
theorem dX9_rests_220 : decode cX9_rests 220 = .ok (.imul, 1) := by decide +kernel
theorem dX9_rests_221 : decode cX9_rests 221 = .ok (.iaload, 1) := by decide +kernel
theorem dX9_rests_222 : decode cX9_rests 222 = .ok (.if_icmp .gt 34, 3) := by decide +kernel
theorem dX9_rests_225 : decode cX9_rests 225 = .ok (.aload_n 0, 1) := by decide +kernel
theorem dX9_rests_226 : decode cX9_rests 226 = .ok (.getfield 59, 3) := by decide +kernel
theorem dX9_rests_229 : decode cX9_rests 229 = .ok (.iconst 2, 1) := by decide +kernel
theorem dX9_rests_230 : decode cX9_rests 230 = .ok (.iload 4, 2) := by decide +kernel
theorem dX9_rests_232 : decode cX9_rests 232 = .ok (.iconst 1, 1) := by decide +kernel
theorem dX9_rests_233 : decode cX9_rests 233 = .ok (.ixor, 1) := by decide +kernel
theorem dX9_rests_234 : decode cX9_rests 234 = .ok (.imul, 1) := by decide +kernel
theorem dX9_rests_235 : decode cX9_rests 235 = .ok (.iconst 1, 1) := by decide +kernel
theorem dX9_rests_236 : decode cX9_rests 236 = .ok (.iadd, 1) := by decide +kernel
theorem dX9_rests_237 : decode cX9_rests 237 = .ok (.iaload, 1) := by decide +kernel
theorem dX9_rests_238 : decode cX9_rests 238 = .ok (.aload_n 0, 1) := by decide +kernel
theorem dX9_rests_239 : decode cX9_rests 239 = .ok (.getfield 59, 3) := by decide +kernel
theorem dX9_rests_242 : decode cX9_rests 242 = .ok (.iconst 2, 1) := by decide +kernel
theorem dX9_rests_243 : decode cX9_rests 243 = .ok (.iload 4, 2) := by decide +kernel
theorem dX9_rests_245 : decode cX9_rests 245 = .ok (.imul, 1) := by decide +kernel
theorem dX9_rests_246 : decode cX9_rests 246 = .ok (.iconst 1, 1) := by decide +kernel
theorem dX9_rests_247 : decode cX9_rests 247 = .ok (.iadd, 1) := by decide +kernel
theorem dX9_rests_248 : decode cX9_rests 248 = .ok (.iaload, 1) := by decide +kernel
theorem dX9_rests_249 : decode cX9_rests 249 = .ok (.if_icmp .gt 7, 3) := by decide +kernel
theorem dX9_rests_252 : decode cX9_rests 252 = .ok (.iconst 1, 1) := by decide +kernel
theorem dX9_rests_253 : decode cX9_rests 253 = .ok (.goto 4, 3) := by decide +kernel
theorem dX9_rests_256 : decode cX9_rests 256 = .ok (.iconst 0, 1) := by decide +kernel
theorem dX9_rests_257 : decode cX9_rests 257 = .ok (.istore 5, 2) := by decide +kernel
theorem dX9_rests_259 : decode cX9_rests 259 = .ok (.aload_n 0, 1) := by decide +kernel
theorem dX9_rests_260 : decode cX9_rests 260 = .ok (.iload 5, 2) := by decide +kernel
theorem dX9_rests_262 : decode cX9_rests 262 = .ok (.ifCond .eq 25, 3) := by decide +kernel
theorem dX9_rests_265 : decode cX9_rests 265 = .ok (.aload_n 0, 1) := by decide +kernel
theorem dX9_rests_266 : decode cX9_rests 266 = .ok (.getfield 240, 3) := by decide +kernel
theorem dX9_rests_269 : decode cX9_rests 269 = .ok (.ifCond .ne 18, 3) := by decide +kernel
theorem dX9_rests_272 : decode cX9_rests 272 = .ok (.bipush 10, 2) := by decide +kernel
theorem dX9_rests_274 : decode cX9_rests 274 = .ok (.iload 4, 2) := by decide +kernel
theorem dX9_rests_276 : decode cX9_rests 276 = .ok (.iconst 2, 1) := by decide +kernel
theorem dX9_rests_277 : decode cX9_rests 277 = .ok (.idiv, 1) := by decide +kernel
theorem dX9_rests_278 : decode cX9_rests 278 = .ok (.imul, 1) := by decide +kernel
theorem dX9_rests_279 : decode cX9_rests 279 = .ok (.iload 4, 2) := by decide +kernel
theorem dX9_rests_281 : decode cX9_rests 281 = .ok (.iconst 2, 1) := by decide +kernel
theorem dX9_rests_282 : decode cX9_rests 282 = .ok (.irem, 1) := by decide +kernel
theorem dX9_rests_283 : decode cX9_rests 283 = .ok (.iadd, 1) := by decide +kernel
theorem dX9_rests_284 : decode cX9_rests 284 = .ok (.goto 7, 3) := by decide +kernel
theorem dX9_rests_287 : decode cX9_rests 287 = .ok (.aload_n 0, 1) := by decide +kernel
theorem dX9_rests_288 : decode cX9_rests 288 = .ok (.getfield 243, 3) := by decide +kernel
theorem dX9_rests_291 : decode cX9_rests 291 = .ok (.putfield 243, 3) := by decide +kernel
theorem dX9_rests_294 : decode cX9_rests 294 = .ok (.aload_n 0, 1) := by decide +kernel
theorem dX9_rests_295 : decode cX9_rests 295 = .ok (.dup, 1) := by decide +kernel
theorem dX9_rests_296 : decode cX9_rests 296 = .ok (.getfield 240, 3) := by decide +kernel
theorem dX9_rests_299 : decode cX9_rests 299 = .ok (.iload 5, 2) := by decide +kernel
theorem dX9_rests_301 : decode cX9_rests 301 = .ok (.ifCond .eq 7, 3) := by decide +kernel
theorem dX9_rests_304 : decode cX9_rests 304 = .ok (.iconst 1, 1) := by decide +kernel
theorem dX9_rests_305 : decode cX9_rests 305 = .ok (.goto 4, 3) := by decide +kernel
theorem dX9_rests_308 : decode cX9_rests 308 = .ok (.iconst 0, 1) := by decide +kernel
theorem dX9_rests_309 : decode cX9_rests 309 = .ok (.iadd, 1) := by decide +kernel
theorem dX9_rests_310 : decode cX9_rests 310 = .ok (.putfield 240, 3) := by decide +kernel
theorem dX9_rests_313 : decode cX9_rests 313 = .ok (.iinc 4 1, 3) := by decide +kernel
theorem dX9_rests_316 : decode cX9_rests 316 = .ok (.goto (-120), 3) := by decide +kernel
theorem dX9_rests_319 : decode cX9_rests 319 = .ok (.iload_n 3, 1) := by decide +kernel
theorem dX9_rests_320 : decode cX9_rests 320 = .ok (.ifCond .ne 10, 3) := by decide +kernel
theorem dX9_rests_323 : decode cX9_rests 323 = .ok (.aload_n 0, 1) := by decide +kernel
theorem dX9_rests_324 : decode cX9_rests 324 = .ok (.getfield 240, 3) := by decide +kernel
theorem dX9_rests_327 : decode cX9_rests 327 = .ok (.goto 7, 3) := by decide +kernel
theorem dX9_rests_330 : decode cX9_rests 330 = .ok (.aload_n 0, 1) := by decide +kernel
theorem dX9_rests_331 : decode cX9_rests 331 = .ok (.getfield 243, 3) := by decide +kernel
theorem dX9_rests_334 : decode cX9_rests 334 = .ok (.ireturn, 1) := by decide +kernel
theorem dX9_thorny_0 : decode cX9_thorny 0 = .ok (.aload_n 0, 1) := by decide +kernel
theorem dX9_thorny_1 : decode cX9_thorny 1 = .ok (.iconst 0, 1) := by decide +kernel
theorem dX9_thorny_2 : decode cX9_thorny 2 = .ok (.putfield 65, 3) := by decide +kernel
theorem dX9_thorny_5 : decode cX9_thorny 5 = .ok (.iload_n 1, 1) := by decide +kernel
theorem dX9_thorny_6 : decode cX9_thorny 6 = .ok (.i2l, 1) := by decide +kernel
theorem dX9_thorny_7 : decode cX9_thorny 7 = .ok (.lconst 0, 1) := by decide +kernel
theorem dX9_thorny_8 : decode cX9_thorny 8 = .ok (.ldc2_w 194, 3) := by decide +kernel
theorem dX9_thorny_11 : decode cX9_thorny 11 = .ok (.invokestatic 72, 3) := by decide +kernel
theorem dX9_thorny_14 : decode cX9_thorny 14 = .ok (.ifCond .eq 15, 3) := by decide +kernel
theorem dX9_thorny_17 : decode cX9_thorny 17 = .ok (.iload_n 2, 1) := by decide +kernel
theorem dX9_thorny_18 : decode cX9_thorny 18 = .ok (.i2l, 1) := by decide +kernel
theorem dX9_thorny_19 : decode cX9_thorny 19 = .ok (.lconst 0, 1) := by decide +kernel
theorem dX9_thorny_20 : decode cX9_thorny 20 = .ok (.ldc2_w 246, 3) := by decide +kernel
theorem dX9_thorny_23 : decode cX9_thorny 23 = .ok (.invokestatic 72, 3) := by decide +kernel
theorem dX9_thorny_26 : decode cX9_thorny 26 = .ok (.ifCond .ne 6, 3) := by decide +kernel
theorem dX9_thorny_29 : decode cX9_thorny 29 = .ok (.bipush (-2), 2) := by decide +kernel
theorem dX9_thorny_31 : decode cX9_thorny 31 = .ok (.ireturn, 1) := by decide +kernel
theorem dX9_thorny_32 : decode cX9_thorny 32 = .ok (.iconst 0, 1) := by decide +kernel
theorem dX9_thorny_33 : decode cX9_thorny 33 = .ok (.istore 4, 2) := by decide +kernel
theorem dX9_thorny_35 : decode cX9_thorny 35 = .ok (.iconst 0, 1) := by decide +kernel
theorem dX9_thorny_36 : decode cX9_thorny 36 = .ok (.istore 5, 2) := by decide +kernel
theorem dX9_thorny_38 : decode cX9_thorny 38 = .ok (.iload 5, 2) := by decide +kernel
theorem dX9_thorny_40 : decode cX9_thorny 40 = .ok (.iconst 1, 1) := by decide +kernel
theorem dX9_thorny_41 : decode cX9_thorny 41 = .ok (.aload_n 0, 1) := by decide +kernel
theorem dX9_thorny_42 : decode cX9_thorny 42 = .ok (.getfield 69, 3) := by decide +kernel
theorem dX9_thorny_45 : decode cX9_thorny 45 = .ok (.ishl, 1) := by decide +kernel
theorem dX9_thorny_46 : decode cX9_thorny 46 = .ok (.if_icmp .ge 106, 3) := by decide +kernel
theorem dX9_thorny_49 : decode cX9_thorny 49 = .ok (.aload_n 0, 1) := by decide +kernel
theorem dX9_thorny_50 : decode cX9_thorny 50 = .ok (.invokevirtual 169, 3) := by decide +kernel
theorem dX9_thorny_53 : decode cX9_thorny 53 = .ok (.iconst 0, 1) := by decide +kernel
theorem dX9_thorny_54 : decode cX9_thorny 54 = .ok (.istore 6, 2) := by decide +kernel
theorem dX9_thorny_56 : decode cX9_thorny 56 = .ok (.iload 6, 2) := by decide +kernel
theorem dX9_thorny_58 : decode cX9_thorny 58 = .ok (.aload_n 0, 1) := by decide +kernel
theorem dX9_thorny_59 : decode cX9_thorny 59 = .ok (.getfield 69, 3) := by decide +kernel
theorem dX9_thorny_62 : decode cX9_thorny 62 = .ok (.if_icmp .ge 28, 3) := by decide +kernel
theorem dX9_thorny_65 : decode cX9_thorny 65 = .ok (.iload 5, 2) := by decide +kernel
theorem dX9_thorny_67 : decode cX9_thorny 67 = .ok (.iload 6, 2) := by decide +kernel
theorem dX9_thorny_69 : decode cX9_thorny 69 = .ok (.invokestatic 121, 3) := by decide +kernel
theorem dX9_thorny_72 : decode cX9_thorny 72 = .ok (.ifCond .eq 12, 3) := by decide +kernel
theorem dX9_thorny_75 : decode cX9_thorny 75 = .ok (.aload_n 0, 1) := by decide +kernel
theorem dX9_thorny_76 : decode cX9_thorny 76 = .ok (.getfield 34, 3) := by decide +kernel
theorem dX9_thorny_79 : decode cX9_thorny 79 = .ok (.iload 6, 2) := by decide +kernel
theorem dX9_thorny_81 : decode cX9_thorny 81 = .ok (.invokestatic 139, 3) := by decide +kernel
theorem dX9_thorny_84 : decode cX9_thorny 84 = .ok (.iinc 6 1, 3) := by decide +kernel
theorem dX9_thorny_87 : decode cX9_thorny 87 = .ok (.goto (-31), 3) := by decide +kernel
theorem dX9_thorny_90 : decode cX9_thorny 90 = .ok (.aload_n 0, 1) := by decide +kernel
theorem dX9_thorny_91 : decode cX9_thorny 91 = .ok (.invokevirtual 176, 3) := by decide +kernel
theorem dX9_thorny_94 : decode cX9_thorny 94 = .ok (.istore 6, 2) := by decide +kernel
theorem dX9_thorny_96 : decode cX9_thorny 96 = .ok (.iload 5, 2) := by decide +kernel
theorem dX9_thorny_98 : decode cX9_thorny 98 = .ok (.invokestatic 220, 3) := by decide +kernel
theorem dX9_thorny_101 : decode cX9_thorny 101 = .ok (.istore 7, 2) := by decide +kernel
theorem dX9_thorny_103 : decode cX9_thorny 103 = .ok (.iload 4, 2) := by decide +kernel
theorem dX9_thorny_105 : decode cX9_thorny 105 = .ok (.iload 6, 2) := by decide +kernel
theorem dX9_thorny_107 : decode cX9_thorny 107 = .ok (.bipush (-9), 2) := by decide +kernel
theorem dX9_thorny_109 : decode cX9_thorny 109 = .ok (.if_icmp .eq 33, 3) := by decide +kernel
theorem dX9_thorny_112 : decode cX9_thorny 112 = .ok (.iload 6, 2) := by decide +kernel
theorem dX9_thorny_114 : decode cX9_thorny 114 = .ok (.iload_n 1, 1) := by decide +kernel
theorem dX9_thorny_115 : decode cX9_thorny 115 = .ok (.if_icmp .gt 27, 3) := by decide +kernel
theorem dX9_thorny_118 : decode cX9_thorny 118 = .ok (.iload_n 2, 1) := by decide +kernel
theorem dX9_thorny_119 : decode cX9_thorny 119 = .ok (.iload 7, 2) := by decide +kernel
theorem dX9_thorny_121 : decode cX9_thorny 121 = .ok (.invokestatic 185, 3) := by decide +kernel
theorem dX9_thorny_124 : decode cX9_thorny 124 = .ok (.bipush 10, 2) := by decide +kernel
theorem dX9_thorny_126 : decode cX9_thorny 126 = .ok (.iload_n 2, 1) := by decide +kernel
theorem dX9_thorny_127 : decode cX9_thorny 127 = .ok (.isub, 1) := by decide +kernel
theorem dX9_thorny_128 : decode cX9_thorny 128 = .ok (.aload_n 0, 1) := by decide +kernel
theorem dX9_thorny_129 : decode cX9_thorny 129 = .ok (.getfield 69, 3) := by decide +kernel
theorem dX9_thorny_132 : decode cX9_thorny 132 = .ok (.iload 7, 2) := by decide +kernel
theorem dX9_thorny_134 : decode cX9_thorny 134 = .ok (.isub, 1) := by decide +kernel
theorem dX9_thorny_135 : decode cX9_thorny 135 = .ok (.invokestatic 185, 3) := by decide +kernel
theorem dX9_thorny_138 : decode cX9_thorny 138 = .ok (.imul, 1) := by decide +kernel
theorem dX9_thorny_139 : decode cX9_thorny 139 = .ok (.goto 4, 3) := by decide +kernel
theorem dX9_thorny_142 : decode cX9_thorny 142 = .ok (.iconst 0, 1) := by decide +kernel
theorem dX9_thorny_143 : decode cX9_thorny 143 = .ok (.iadd, 1) := by decide +kernel
theorem dX9_thorny_144 : decode cX9_thorny 144 = .ok (.istore 4, 2) := by decide +kernel
theorem dX9_thorny_146 : decode cX9_thorny 146 = .ok (.iinc 5 1, 3) := by decide +kernel
theorem dX9_thorny_149 : decode cX9_thorny 149 = .ok (.goto (-111), 3) := by decide +kernel
theorem dX9_thorny_152 : decode cX9_thorny 152 = .ok (.iload 4, 2) := by decide +kernel
theorem dX9_thorny_154 : decode cX9_thorny 154 = .ok (.bipush 10, 2) := by decide +kernel
theorem dX9_thorny_156 : decode cX9_thorny 156 = .ok (.aload_n 0, 1) := by decide +kernel
theorem dX9_thorny_157 : decode cX9_thorny 157 = .ok (.getfield 69, 3) := by decide +kernel
theorem dX9_thorny_160 : decode cX9_thorny 160 = .ok (.invokestatic 185, 3) := by decide +kernel
theorem dX9_thorny_163 : decode cX9_thorny 163 = .ok (.iload_n 3, 1) := by decide +kernel
theorem dX9_thorny_164 : decode cX9_thorny 164 = .ok (.invokestatic 226, 3) := by decide +kernel
theorem dX9_thorny_167 : decode cX9_thorny 167 = .ok (.ireturn, 1) := by decide +kernel
theorem dX9_seed_0 : decode cX9_seed 0 = .ok (.aload_n 0, 1) := by decide +kernel
theorem dX9_seed_1 : decode cX9_seed 1 = .ok (.iconst 0, 1) := by decide +kernel
theorem dX9_seed_2 : decode cX9_seed 2 = .ok (.putfield 65, 3) := by decide +kernel
theorem dX9_seed_5 : decode cX9_seed 5 = .ok (.aload_n 0, 1) := by decide +kernel
theorem dX9_seed_6 : decode cX9_seed 6 = .ok (.getfield 248, 3) := by decide +kernel
theorem dX9_seed_9 : decode cX9_seed 9 = .ok (.lstore_n 3, 1) := by decide +kernel
theorem dX9_seed_10 : decode cX9_seed 10 = .ok (.aload_n 0, 1) := by decide +kernel
theorem dX9_seed_11 : decode cX9_seed 11 = .ok (.lload_n 1, 1) := by decide +kernel
theorem dX9_seed_12 : decode cX9_seed 12 = .ok (.putfield 248, 3) := by decide +kernel
theorem dX9_seed_15 : decode cX9_seed 15 = .ok (.lload_n 3, 1) := by decide +kernel
theorem dX9_seed_16 : decode cX9_seed 16 = .ok (.lreturn, 1) := by decide +kernel
theorem dX9_campaigns_0 : decode cX9_campaigns 0 = .ok (.aload_n 0, 1) := by decide +kernel
theorem dX9_campaigns_1 : decode cX9_campaigns 1 = .ok (.iconst 0, 1) := by decide +kernel
theorem dX9_campaigns_2 : decode cX9_campaigns 2 = .ok (.putfield 65, 3) := by decide +kernel
theorem dX9_campaigns_5 : decode cX9_campaigns 5 = .ok (.iload_n 1, 1) := by decide +kernel
theorem dX9_campaigns_6 : decode cX9_campaigns 6 = .ok (.i2l, 1) := by decide +kernel
theorem dX9_campaigns_7 : decode cX9_campaigns 7 = .ok (.lconst 1, 1) := by decide +kernel
theorem dX9_campaigns_8 : decode cX9_campaigns 8 = .ok (.ldc2_w 252, 3) := by decide +kernel
theorem dX9_campaigns_11 : decode cX9_campaigns 11 = .ok (.invokestatic 72, 3) := by decide +kernel
theorem dX9_campaigns_14 : decode cX9_campaigns 14 = .ok (.ifCond .ne 6, 3) := by decide +kernel
theorem dX9_campaigns_17 : decode cX9_campaigns 17 = .ok (.bipush (-2), 2) := by decide +kernel
theorem dX9_campaigns_19 : decode cX9_campaigns 19 = .ok (.ireturn, 1) := by decide +kernel
theorem dX9_campaigns_20 : decode cX9_campaigns 20 = .ok (.aload_n 0, 1) := by decide +kernel
theorem dX9_campaigns_21 : decode cX9_campaigns 21 = .ok (.invokevirtual 169, 3) := by decide +kernel
theorem dX9_campaigns_24 : decode cX9_campaigns 24 = .ok (.iconst 0, 1) := by decide +kernel
theorem dX9_campaigns_25 : decode cX9_campaigns 25 = .ok (.istore_n 2, 1) := by decide +kernel
theorem dX9_campaigns_26 : decode cX9_campaigns 26 = .ok (.iconst 0, 1) := by decide +kernel
theorem dX9_campaigns_27 : decode cX9_campaigns 27 = .ok (.istore_n 3, 1) := by decide +kernel
theorem dX9_campaigns_28 : decode cX9_campaigns 28 = .ok (.iload_n 3, 1) := by decide +kernel
theorem dX9_campaigns_29 : decode cX9_campaigns 29 = .ok (.iload_n 1, 1) := by decide +kernel
theorem dX9_campaigns_30 : decode cX9_campaigns 30 = .ok (.if_icmp .ge 97, 3) := by decide +kernel
theorem dX9_campaigns_33 : decode cX9_campaigns 33 = .ok (.aload_n 0, 1) := by decide +kernel
theorem dX9_campaigns_34 : decode cX9_campaigns 34 = .ok (.aload_n 0, 1) := by decide +kernel
theorem dX9_campaigns_35 : decode cX9_campaigns 35 = .ok (.getfield 248, 3) := by decide +kernel
theorem dX9_campaigns_38 : decode cX9_campaigns 38 = .ok (.ldc2_w 254, 3) := by decide +kernel
theorem dX9_campaigns_41 : decode cX9_campaigns 41 = .ok (.lmul, 1) := by decide +kernel
theorem dX9_campaigns_42 : decode cX9_campaigns 42 = .ok (.ldc2_w 256, 3) := by decide +kernel
theorem dX9_campaigns_45 : decode cX9_campaigns 45 = .ok (.ladd, 1) := by decide +kernel
theorem dX9_campaigns_46 : decode cX9_campaigns 46 = .ok (.putfield 248, 3) := by decide +kernel
theorem dX9_campaigns_49 : decode cX9_campaigns 49 = .ok (.aload_n 0, 1) := by decide +kernel
theorem dX9_campaigns_50 : decode cX9_campaigns 50 = .ok (.getfield 248, 3) := by decide +kernel
theorem dX9_campaigns_53 : decode cX9_campaigns 53 = .ok (.bipush 33, 2) := by decide +kernel
theorem dX9_campaigns_55 : decode cX9_campaigns 55 = .ok (.lushr, 1) := by decide +kernel
theorem dX9_campaigns_56 : decode cX9_campaigns 56 = .ok (.ldc2_w 194, 3) := by decide +kernel
theorem dX9_campaigns_59 : decode cX9_campaigns 59 = .ok (.lrem, 1) := by decide +kernel
theorem dX9_campaigns_60 : decode cX9_campaigns 60 = .ok (.l2i, 1) := by decide +kernel
theorem dX9_campaigns_61 : decode cX9_campaigns 61 = .ok (.istore 4, 2) := by decide +kernel
theorem dX9_campaigns_63 : decode cX9_campaigns 63 = .ok (.aload_n 0, 1) := by decide +kernel
theorem dX9_campaigns_64 : decode cX9_campaigns 64 = .ok (.iload 4, 2) := by decide +kernel
theorem dX9_campaigns_66 : decode cX9_campaigns 66 = .ok (.iconst 5, 1) := by decide +kernel
theorem dX9_campaigns_67 : decode cX9_campaigns 67 = .ok (.if_icmp .ge 12, 3) := by decide +kernel
theorem dX9_campaigns_70 : decode cX9_campaigns 70 = .ok (.sipush 200, 3) := by decide +kernel
theorem dX9_campaigns_73 : decode cX9_campaigns 73 = .ok (.iload 4, 2) := by decide +kernel
theorem dX9_campaigns_75 : decode cX9_campaigns 75 = .ok (.iadd, 1) := by decide +kernel
theorem dX9_campaigns_76 : decode cX9_campaigns 76 = .ok (.goto 32, 3) := by decide +kernel
theorem dX9_campaigns_79 : decode cX9_campaigns 79 = .ok (.iload 4, 2) := by decide +kernel
theorem dX9_campaigns_81 : decode cX9_campaigns 81 = .ok (.bipush 10, 2) := by decide +kernel
theorem dX9_campaigns_83 : decode cX9_campaigns 83 = .ok (.if_icmp .ge 12, 3) := by decide +kernel
theorem dX9_campaigns_86 : decode cX9_campaigns 86 = .ok (.sipush 295, 3) := by decide +kernel
theorem dX9_campaigns_89 : decode cX9_campaigns 89 = .ok (.iload 4, 2) := by decide +kernel
theorem dX9_campaigns_91 : decode cX9_campaigns 91 = .ok (.iadd, 1) := by decide +kernel
theorem dX9_campaigns_92 : decode cX9_campaigns 92 = .ok (.goto 16, 3) := by decide +kernel
theorem dX9_campaigns_95 : decode cX9_campaigns 95 = .ok (.iload 4, 2) := by decide +kernel
theorem dX9_campaigns_97 : decode cX9_campaigns 97 = .ok (.bipush 10, 2) := by decide +kernel
theorem dX9_campaigns_99 : decode cX9_campaigns 99 = .ok (.if_icmp .ne 8, 3) := by decide +kernel
theorem dX9_campaigns_102 : decode cX9_campaigns 102 = .ok (.bipush 100, 2) := by decide +kernel
theorem dX9_campaigns_104 : decode cX9_campaigns 104 = .ok (.goto 4, 3) := by decide +kernel
theorem dX9_campaigns_107 : decode cX9_campaigns 107 = .ok (.iconst 0, 1) := by decide +kernel
theorem dX9_campaigns_108 : decode cX9_campaigns 108 = .ok (.invokevirtual 214, 3) := by decide +kernel
theorem dX9_campaigns_111 : decode cX9_campaigns 111 = .ok (.pop, 1) := by decide +kernel
theorem dX9_campaigns_112 : decode cX9_campaigns 112 = .ok (.iload_n 2, 1) := by decide +kernel
theorem dX9_campaigns_113 : decode cX9_campaigns 113 = .ok (.aload_n 0, 1) := by decide +kernel
theorem dX9_campaigns_114 : decode cX9_campaigns 114 = .ok (.getfield 34, 3) := by decide +kernel
theorem dX9_campaigns_117 : decode cX9_campaigns 117 = .ok (.iconst 0, 1) := by decide +kernel
theorem dX9_campaigns_118 : decode cX9_campaigns 118 = .ok (.iaload, 1) := by decide +kernel
theorem dX9_campaigns_119 : decode cX9_campaigns 119 = .ok (.iadd, 1) := by decide +kernel
theorem dX9_campaigns_120 : decode cX9_campaigns 120 = .ok (.istore_n 2, 1) := by decide +kernel
theorem dX9_campaigns_121 : decode cX9_campaigns 121 = .ok (.iinc 3 1, 3) := by decide +kernel
theorem dX9_campaigns_124 : decode cX9_campaigns 124 = .ok (.goto (-96), 3) := by decide +kernel
theorem dX9_campaigns_127 : decode cX9_campaigns 127 = .ok (.iload_n 2, 1) := by decide +kernel
theorem dX9_campaigns_128 : decode cX9_campaigns 128 = .ok (.ireturn, 1) := by decide +kernel
theorem dX9_keep_0 : decode cX9_keep 0 = .ok (.aload_n 0, 1) := by decide +kernel
theorem dX9_keep_1 : decode cX9_keep 1 = .ok (.iconst 0, 1) := by decide +kernel
theorem dX9_keep_2 : decode cX9_keep 2 = .ok (.putfield 65, 3) := by decide +kernel
theorem dX9_keep_5 : decode cX9_keep 5 = .ok (.iload_n 1, 1) := by decide +kernel
theorem dX9_keep_6 : decode cX9_keep 6 = .ok (.i2l, 1) := by decide +kernel
theorem dX9_keep_7 : decode cX9_keep 7 = .ok (.lconst 0, 1) := by decide +kernel
theorem dX9_keep_8 : decode cX9_keep 8 = .ok (.lconst 1, 1) := by decide +kernel
theorem dX9_keep_9 : decode cX9_keep 9 = .ok (.invokestatic 72, 3) := by decide +kernel
theorem dX9_keep_12 : decode cX9_keep 12 = .ok (.ifCond .ne 5, 3) := by decide +kernel
theorem dX9_keep_15 : decode cX9_keep 15 = .ok (.iconst (-1), 1) := by decide +kernel
theorem dX9_keep_16 : decode cX9_keep 16 = .ok (.ireturn, 1) := by decide +kernel
theorem dX9_keep_17 : decode cX9_keep 17 = .ok (.aload_n 0, 1) := by decide +kernel
theorem dX9_keep_18 : decode cX9_keep 18 = .ok (.getfield 46, 3) := by decide +kernel
theorem dX9_keep_21 : decode cX9_keep 21 = .ok (.iload_n 1, 1) := by decide +kernel
theorem dX9_keep_22 : decode cX9_keep 22 = .ok (.iconst 1, 1) := by decide +kernel
theorem dX9_keep_23 : decode cX9_keep 23 = .ok (.bastore, 1) := by decide +kernel
theorem dX9_keep_24 : decode cX9_keep 24 = .ok (.iconst 0, 1) := by decide +kernel
theorem dX9_keep_25 : decode cX9_keep 25 = .ok (.istore_n 2, 1) := by decide +kernel
theorem dX9_keep_26 : decode cX9_keep 26 = .ok (.iload_n 2, 1) := by decide +kernel
theorem dX9_keep_27 : decode cX9_keep 27 = .ok (.bipush 7, 2) := by decide +kernel
theorem dX9_keep_29 : decode cX9_keep 29 = .ok (.if_icmp .ge 26, 3) := by decide +kernel
theorem dX9_keep_32 : decode cX9_keep 32 = .ok (.aload_n 0, 1) := by decide +kernel
theorem dX9_keep_33 : decode cX9_keep 33 = .ok (.getfield 43, 3) := by decide +kernel
theorem dX9_keep_36 : decode cX9_keep 36 = .ok (.bipush 7, 2) := by decide +kernel
theorem dX9_keep_38 : decode cX9_keep 38 = .ok (.iload_n 1, 1) := by decide +kernel
theorem dX9_keep_39 : decode cX9_keep 39 = .ok (.imul, 1) := by decide +kernel
theorem dX9_keep_40 : decode cX9_keep 40 = .ok (.iload_n 2, 1) := by decide +kernel
theorem dX9_keep_41 : decode cX9_keep 41 = .ok (.iadd, 1) := by decide +kernel
theorem dX9_keep_42 : decode cX9_keep 42 = .ok (.aload_n 0, 1) := by decide +kernel
theorem dX9_keep_43 : decode cX9_keep 43 = .ok (.getfield 31, 3) := by decide +kernel
theorem dX9_keep_46 : decode cX9_keep 46 = .ok (.iload_n 2, 1) := by decide +kernel
theorem dX9_keep_47 : decode cX9_keep 47 = .ok (.iaload, 1) := by decide +kernel
theorem dX9_keep_48 : decode cX9_keep 48 = .ok (.iastore, 1) := by decide +kernel
theorem dX9_keep_49 : decode cX9_keep 49 = .ok (.iinc 2 1, 3) := by decide +kernel
theorem dX9_keep_52 : decode cX9_keep 52 = .ok (.goto (-26), 3) := by decide +kernel
theorem dX9_keep_55 : decode cX9_keep 55 = .ok (.aload_n 0, 1) := by decide +kernel
theorem dX9_keep_56 : decode cX9_keep 56 = .ok (.getfield 31, 3) := by decide +kernel
theorem dX9_keep_59 : decode cX9_keep 59 = .ok (.iconst 1, 1) := by decide +kernel
theorem dX9_keep_60 : decode cX9_keep 60 = .ok (.iaload, 1) := by decide +kernel
theorem dX9_keep_61 : decode cX9_keep 61 = .ok (.ireturn, 1) := by decide +kernel
theorem dX9_again_0 : decode cX9_again 0 = .ok (.aload_n 0, 1) := by decide +kernel
theorem dX9_again_1 : decode cX9_again 1 = .ok (.iconst 0, 1) := by decide +kernel
theorem dX9_again_2 : decode cX9_again 2 = .ok (.putfield 65, 3) := by decide +kernel
theorem dX9_again_5 : decode cX9_again 5 = .ok (.iload_n 1, 1) := by decide +kernel
theorem dX9_again_6 : decode cX9_again 6 = .ok (.i2l, 1) := by decide +kernel
theorem dX9_again_7 : decode cX9_again 7 = .ok (.lconst 0, 1) := by decide +kernel
theorem dX9_again_8 : decode cX9_again 8 = .ok (.lconst 1, 1) := by decide +kernel
theorem dX9_again_9 : decode cX9_again 9 = .ok (.invokestatic 72, 3) := by decide +kernel
theorem dX9_again_12 : decode cX9_again 12 = .ok (.ifCond .ne 5, 3) := by decide +kernel
theorem dX9_again_15 : decode cX9_again 15 = .ok (.iconst (-1), 1) := by decide +kernel
theorem dX9_again_16 : decode cX9_again 16 = .ok (.ireturn, 1) := by decide +kernel
theorem dX9_again_17 : decode cX9_again 17 = .ok (.aload_n 0, 1) := by decide +kernel
theorem dX9_again_18 : decode cX9_again 18 = .ok (.getfield 46, 3) := by decide +kernel
theorem dX9_again_21 : decode cX9_again 21 = .ok (.iload_n 1, 1) := by decide +kernel
theorem dX9_again_22 : decode cX9_again 22 = .ok (.baload, 1) := by decide +kernel
theorem dX9_again_23 : decode cX9_again 23 = .ok (.ifCond .ne 6, 3) := by decide +kernel
theorem dX9_again_26 : decode cX9_again 26 = .ok (.bipush (-3), 2) := by decide +kernel
theorem dX9_again_28 : decode cX9_again 28 = .ok (.ireturn, 1) := by decide +kernel
theorem dX9_again_29 : decode cX9_again 29 = .ok (.iconst 0, 1) := by decide +kernel
theorem dX9_again_30 : decode cX9_again 30 = .ok (.istore_n 2, 1) := by decide +kernel
theorem dX9_again_31 : decode cX9_again 31 = .ok (.iload_n 2, 1) := by decide +kernel
theorem dX9_again_32 : decode cX9_again 32 = .ok (.bipush 7, 2) := by decide +kernel
theorem dX9_again_34 : decode cX9_again 34 = .ok (.if_icmp .ge 26, 3) := by decide +kernel
theorem dX9_again_37 : decode cX9_again 37 = .ok (.aload_n 0, 1) := by decide +kernel
theorem dX9_again_38 : decode cX9_again 38 = .ok (.getfield 31, 3) := by decide +kernel
theorem dX9_again_41 : decode cX9_again 41 = .ok (.iload_n 2, 1) := by decide +kernel
theorem dX9_again_42 : decode cX9_again 42 = .ok (.aload_n 0, 1) := by decide +kernel
theorem dX9_again_43 : decode cX9_again 43 = .ok (.getfield 43, 3) := by decide +kernel
theorem dX9_again_46 : decode cX9_again 46 = .ok (.bipush 7, 2) := by decide +kernel
theorem dX9_again_48 : decode cX9_again 48 = .ok (.iload_n 1, 1) := by decide +kernel
theorem dX9_again_49 : decode cX9_again 49 = .ok (.imul, 1) := by decide +kernel
theorem dX9_again_50 : decode cX9_again 50 = .ok (.iload_n 2, 1) := by decide +kernel
theorem dX9_again_51 : decode cX9_again 51 = .ok (.iadd, 1) := by decide +kernel
theorem dX9_again_52 : decode cX9_again 52 = .ok (.iaload, 1) := by decide +kernel
theorem dX9_again_53 : decode cX9_again 53 = .ok (.iastore, 1) := by decide +kernel
theorem dX9_again_54 : decode cX9_again 54 = .ok (.iinc 2 1, 3) := by decide +kernel
theorem dX9_again_57 : decode cX9_again 57 = .ok (.goto (-26), 3) := by decide +kernel
theorem dX9_again_60 : decode cX9_again 60 = .ok (.aload_n 0, 1) := by decide +kernel
theorem dX9_again_61 : decode cX9_again 61 = .ok (.iconst 0, 1) := by decide +kernel
theorem dX9_again_62 : decode cX9_again 62 = .ok (.putfield 114, 3) := by decide +kernel
theorem dX9_again_65 : decode cX9_again 65 = .ok (.aload_n 0, 1) := by decide +kernel
theorem dX9_again_66 : decode cX9_again 66 = .ok (.getfield 31, 3) := by decide +kernel
theorem dX9_again_69 : decode cX9_again 69 = .ok (.iconst 1, 1) := by decide +kernel
theorem dX9_again_70 : decode cX9_again 70 = .ok (.iaload, 1) := by decide +kernel
theorem dX9_again_71 : decode cX9_again 71 = .ok (.ireturn, 1) := by decide +kernel
theorem dJ6_bitCount_0f7a4_0 : decode cJ6_bitCount_0f7a4 0 = .ok (.iload_n 0, 1) := by decide +kernel
theorem dJ6_bitCount_0f7a4_1 : decode cJ6_bitCount_0f7a4 1 = .ok (.iload_n 0, 1) := by decide +kernel
theorem dJ6_bitCount_0f7a4_2 : decode cJ6_bitCount_0f7a4 2 = .ok (.iconst 1, 1) := by decide +kernel
theorem dJ6_bitCount_0f7a4_3 : decode cJ6_bitCount_0f7a4 3 = .ok (.iushr, 1) := by decide +kernel
theorem dJ6_bitCount_0f7a4_4 : decode cJ6_bitCount_0f7a4 4 = .ok (.ldc_w 265, 3) := by decide +kernel
theorem dJ6_bitCount_0f7a4_7 : decode cJ6_bitCount_0f7a4 7 = .ok (.iand, 1) := by decide +kernel
theorem dJ6_bitCount_0f7a4_8 : decode cJ6_bitCount_0f7a4 8 = .ok (.isub, 1) := by decide +kernel
theorem dJ6_bitCount_0f7a4_9 : decode cJ6_bitCount_0f7a4 9 = .ok (.istore_n 0, 1) := by decide +kernel
theorem dJ6_bitCount_0f7a4_10 : decode cJ6_bitCount_0f7a4 10 = .ok (.iload_n 0, 1) := by decide +kernel
theorem dJ6_bitCount_0f7a4_11 : decode cJ6_bitCount_0f7a4 11 = .ok (.ldc_w 266, 3) := by decide +kernel
theorem dJ6_bitCount_0f7a4_14 : decode cJ6_bitCount_0f7a4 14 = .ok (.iand, 1) := by decide +kernel
theorem dJ6_bitCount_0f7a4_15 : decode cJ6_bitCount_0f7a4 15 = .ok (.iload_n 0, 1) := by decide +kernel
theorem dJ6_bitCount_0f7a4_16 : decode cJ6_bitCount_0f7a4 16 = .ok (.iconst 2, 1) := by decide +kernel
theorem dJ6_bitCount_0f7a4_17 : decode cJ6_bitCount_0f7a4 17 = .ok (.iushr, 1) := by decide +kernel
theorem dJ6_bitCount_0f7a4_18 : decode cJ6_bitCount_0f7a4 18 = .ok (.ldc_w 266, 3) := by decide +kernel
theorem dJ6_bitCount_0f7a4_21 : decode cJ6_bitCount_0f7a4 21 = .ok (.iand, 1) := by decide +kernel
theorem dJ6_bitCount_0f7a4_22 : decode cJ6_bitCount_0f7a4 22 = .ok (.iadd, 1) := by decide +kernel
theorem dJ6_bitCount_0f7a4_23 : decode cJ6_bitCount_0f7a4 23 = .ok (.istore_n 0, 1) := by decide +kernel
theorem dJ6_bitCount_0f7a4_24 : decode cJ6_bitCount_0f7a4 24 = .ok (.iload_n 0, 1) := by decide +kernel
theorem dJ6_bitCount_0f7a4_25 : decode cJ6_bitCount_0f7a4 25 = .ok (.iload_n 0, 1) := by decide +kernel
theorem dJ6_bitCount_0f7a4_26 : decode cJ6_bitCount_0f7a4 26 = .ok (.iconst 4, 1) := by decide +kernel
theorem dJ6_bitCount_0f7a4_27 : decode cJ6_bitCount_0f7a4 27 = .ok (.iushr, 1) := by decide +kernel
theorem dJ6_bitCount_0f7a4_28 : decode cJ6_bitCount_0f7a4 28 = .ok (.iadd, 1) := by decide +kernel
theorem dJ6_bitCount_0f7a4_29 : decode cJ6_bitCount_0f7a4 29 = .ok (.ldc_w 267, 3) := by decide +kernel
theorem dJ6_bitCount_0f7a4_32 : decode cJ6_bitCount_0f7a4 32 = .ok (.iand, 1) := by decide +kernel
theorem dJ6_bitCount_0f7a4_33 : decode cJ6_bitCount_0f7a4 33 = .ok (.istore_n 0, 1) := by decide +kernel
theorem dJ6_bitCount_0f7a4_34 : decode cJ6_bitCount_0f7a4 34 = .ok (.iload_n 0, 1) := by decide +kernel
theorem dJ6_bitCount_0f7a4_35 : decode cJ6_bitCount_0f7a4 35 = .ok (.iload_n 0, 1) := by decide +kernel
theorem dJ6_bitCount_0f7a4_36 : decode cJ6_bitCount_0f7a4 36 = .ok (.bipush 8, 2) := by decide +kernel
theorem dJ6_bitCount_0f7a4_38 : decode cJ6_bitCount_0f7a4 38 = .ok (.iushr, 1) := by decide +kernel
theorem dJ6_bitCount_0f7a4_39 : decode cJ6_bitCount_0f7a4 39 = .ok (.iadd, 1) := by decide +kernel
theorem dJ6_bitCount_0f7a4_40 : decode cJ6_bitCount_0f7a4 40 = .ok (.istore_n 0, 1) := by decide +kernel
theorem dJ6_bitCount_0f7a4_41 : decode cJ6_bitCount_0f7a4 41 = .ok (.iload_n 0, 1) := by decide +kernel
theorem dJ6_bitCount_0f7a4_42 : decode cJ6_bitCount_0f7a4 42 = .ok (.iload_n 0, 1) := by decide +kernel
theorem dJ6_bitCount_0f7a4_43 : decode cJ6_bitCount_0f7a4 43 = .ok (.bipush 16, 2) := by decide +kernel
theorem dJ6_bitCount_0f7a4_45 : decode cJ6_bitCount_0f7a4 45 = .ok (.iushr, 1) := by decide +kernel
theorem dJ6_bitCount_0f7a4_46 : decode cJ6_bitCount_0f7a4 46 = .ok (.iadd, 1) := by decide +kernel
theorem dJ6_bitCount_0f7a4_47 : decode cJ6_bitCount_0f7a4 47 = .ok (.istore_n 0, 1) := by decide +kernel
theorem dJ6_bitCount_0f7a4_48 : decode cJ6_bitCount_0f7a4 48 = .ok (.iload_n 0, 1) := by decide +kernel
theorem dJ6_bitCount_0f7a4_49 : decode cJ6_bitCount_0f7a4 49 = .ok (.bipush 63, 2) := by decide +kernel
theorem dJ6_bitCount_0f7a4_51 : decode cJ6_bitCount_0f7a4 51 = .ok (.iand, 1) := by decide +kernel
theorem dJ6_bitCount_0f7a4_52 : decode cJ6_bitCount_0f7a4 52 = .ok (.ireturn, 1) := by decide +kernel
theorem dJ9_abs_0f7a4_0 : decode cJ9_abs_0f7a4 0 = .ok (.iload_n 0, 1) := by decide +kernel
theorem dJ9_abs_0f7a4_1 : decode cJ9_abs_0f7a4 1 = .ok (.ifCond .ge 8, 3) := by decide +kernel
theorem dJ9_abs_0f7a4_4 : decode cJ9_abs_0f7a4 4 = .ok (.iload_n 0, 1) := by decide +kernel
theorem dJ9_abs_0f7a4_5 : decode cJ9_abs_0f7a4 5 = .ok (.ineg, 1) := by decide +kernel
theorem dJ9_abs_0f7a4_6 : decode cJ9_abs_0f7a4 6 = .ok (.goto 4, 3) := by decide +kernel
theorem dJ9_abs_0f7a4_9 : decode cJ9_abs_0f7a4 9 = .ok (.iload_n 0, 1) := by decide +kernel
theorem dJ9_abs_0f7a4_10 : decode cJ9_abs_0f7a4 10 = .ok (.ireturn, 1) := by decide +kernel
theorem dJ9_max_7cf53_0 : decode cJ9_max_7cf53 0 = .ok (.iload_n 0, 1) := by decide +kernel
theorem dJ9_max_7cf53_1 : decode cJ9_max_7cf53 1 = .ok (.iload_n 1, 1) := by decide +kernel
theorem dJ9_max_7cf53_2 : decode cJ9_max_7cf53 2 = .ok (.if_icmp .lt 7, 3) := by decide +kernel
theorem dJ9_max_7cf53_5 : decode cJ9_max_7cf53 5 = .ok (.iload_n 0, 1) := by decide +kernel
theorem dJ9_max_7cf53_6 : decode cJ9_max_7cf53 6 = .ok (.goto 4, 3) := by decide +kernel
theorem dJ9_max_7cf53_9 : decode cJ9_max_7cf53 9 = .ok (.iload_n 1, 1) := by decide +kernel
theorem dJ9_max_7cf53_10 : decode cJ9_max_7cf53 10 = .ok (.ireturn, 1) := by decide +kernel
theorem dJ9_min_7cf53_0 : decode cJ9_min_7cf53 0 = .ok (.iload_n 0, 1) := by decide +kernel
theorem dJ9_min_7cf53_1 : decode cJ9_min_7cf53 1 = .ok (.iload_n 1, 1) := by decide +kernel
theorem dJ9_min_7cf53_2 : decode cJ9_min_7cf53 2 = .ok (.if_icmp .gt 7, 3) := by decide +kernel
theorem dJ9_min_7cf53_5 : decode cJ9_min_7cf53 5 = .ok (.iload_n 0, 1) := by decide +kernel
theorem dJ9_min_7cf53_6 : decode cJ9_min_7cf53 6 = .ok (.goto 4, 3) := by decide +kernel
theorem dJ9_min_7cf53_9 : decode cJ9_min_7cf53 9 = .ok (.iload_n 1, 1) := by decide +kernel
theorem dJ9_min_7cf53_10 : decode cJ9_min_7cf53 10 = .ok (.ireturn, 1) := by decide +kernel
theorem dL_law_0 : decode cL_law 0 = .ok (.new 7, 3) := by decide +kernel
theorem dL_law_3 : decode cL_law 3 = .ok (.dup, 1) := by decide +kernel
theorem dL_law_4 : decode cL_law 4 = .ok (.invokespecial 9, 3) := by decide +kernel
theorem dL_law_7 : decode cL_law 7 = .ok (.astore_n 1, 1) := by decide +kernel
theorem dL_law_8 : decode cL_law 8 = .ok (.new 10, 3) := by decide +kernel
theorem dL_law_11 : decode cL_law 11 = .ok (.dup, 1) := by decide +kernel
theorem dL_law_12 : decode cL_law 12 = .ok (.invokespecial 12, 3) := by decide +kernel
theorem dL_law_15 : decode cL_law 15 = .ok (.astore_n 2, 1) := by decide +kernel
theorem dL_law_16 : decode cL_law 16 = .ok (.iconst 0, 1) := by decide +kernel
theorem dL_law_17 : decode cL_law 17 = .ok (.istore_n 3, 1) := by decide +kernel
theorem dL_law_18 : decode cL_law 18 = .ok (.iload_n 3, 1) := by decide +kernel
theorem dL_law_19 : decode cL_law 19 = .ok (.aload_n 0, 1) := by decide +kernel
theorem dL_law_20 : decode cL_law 20 = .ok (.arraylength, 1) := by decide +kernel
theorem dL_law_21 : decode cL_law 21 = .ok (.iconst 4, 1) := by decide +kernel
theorem dL_law_22 : decode cL_law 22 = .ok (.isub, 1) := by decide +kernel
theorem dL_law_23 : decode cL_law 23 = .ok (.if_icmp .gt 920, 3) := by decide +kernel
theorem dL_law_26 : decode cL_law 26 = .ok (.aload_n 0, 1) := by decide +kernel
theorem dL_law_27 : decode cL_law 27 = .ok (.iload_n 3, 1) := by decide +kernel
theorem dL_law_28 : decode cL_law 28 = .ok (.iaload, 1) := by decide +kernel
theorem dL_law_29 : decode cL_law 29 = .ok (.bipush 31, 2) := by decide +kernel
theorem dL_law_31 : decode cL_law 31 = .ok (.iand, 1) := by decide +kernel
theorem dL_law_32 : decode cL_law 32 = .ok (.tableswitch 905 0 27 #[128, 151, 164, 177, 190, 213, 246, 279, 292, 305, 328, 351, 364, 397, 410, 433, 456, 489, 552, 601, 644, 657, 680, 723, 782, 836, 859, 882], 128) := by decide +kernel
theorem dL_law_160 : decode cL_law 160 = .ok (.aload_n 1, 1) := by decide +kernel
theorem dL_law_161 : decode cL_law 161 = .ok (.aload_n 0, 1) := by decide +kernel
theorem dL_law_162 : decode cL_law 162 = .ok (.iload_n 3, 1) := by decide +kernel
theorem dL_law_163 : decode cL_law 163 = .ok (.iconst 1, 1) := by decide +kernel
theorem dL_law_164 : decode cL_law 164 = .ok (.iadd, 1) := by decide +kernel
theorem dL_law_165 : decode cL_law 165 = .ok (.iaload, 1) := by decide +kernel
theorem dL_law_166 : decode cL_law 166 = .ok (.invokevirtual 13, 3) := by decide +kernel
theorem dL_law_169 : decode cL_law 169 = .ok (.aload_n 2, 1) := by decide +kernel
theorem dL_law_170 : decode cL_law 170 = .ok (.aload_n 0, 1) := by decide +kernel
theorem dL_law_171 : decode cL_law 171 = .ok (.iload_n 3, 1) := by decide +kernel
theorem dL_law_172 : decode cL_law 172 = .ok (.iconst 1, 1) := by decide +kernel
theorem dL_law_173 : decode cL_law 173 = .ok (.iadd, 1) := by decide +kernel
theorem dL_law_174 : decode cL_law 174 = .ok (.iaload, 1) := by decide +kernel
theorem dL_law_175 : decode cL_law 175 = .ok (.invokevirtual 17, 3) := by decide +kernel
theorem dL_law_178 : decode cL_law 178 = .ok (.if_icmp .eq 759, 3) := by decide +kernel
theorem dL_law_181 : decode cL_law 181 = .ok (.iconst 0, 1) := by decide +kernel
theorem dL_law_182 : decode cL_law 182 = .ok (.ireturn, 1) := by decide +kernel
theorem dL_law_183 : decode cL_law 183 = .ok (.aload_n 1, 1) := by decide +kernel
theorem dL_law_184 : decode cL_law 184 = .ok (.invokevirtual 18, 3) := by decide +kernel
theorem dL_law_187 : decode cL_law 187 = .ok (.aload_n 2, 1) := by decide +kernel
theorem dL_law_188 : decode cL_law 188 = .ok (.invokevirtual 22, 3) := by decide +kernel
theorem dL_law_191 : decode cL_law 191 = .ok (.if_icmp .eq 746, 3) := by decide +kernel
theorem dL_law_194 : decode cL_law 194 = .ok (.iconst 0, 1) := by decide +kernel
theorem dL_law_195 : decode cL_law 195 = .ok (.ireturn, 1) := by decide +kernel
theorem dL_law_196 : decode cL_law 196 = .ok (.aload_n 1, 1) := by decide +kernel
theorem dL_law_197 : decode cL_law 197 = .ok (.invokevirtual 23, 3) := by decide +kernel
theorem dL_law_200 : decode cL_law 200 = .ok (.aload_n 2, 1) := by decide +kernel
theorem dL_law_201 : decode cL_law 201 = .ok (.invokevirtual 26, 3) := by decide +kernel
theorem dL_law_204 : decode cL_law 204 = .ok (.if_icmp .eq 733, 3) := by decide +kernel
theorem dL_law_207 : decode cL_law 207 = .ok (.iconst 0, 1) := by decide +kernel
theorem dL_law_208 : decode cL_law 208 = .ok (.ireturn, 1) := by decide +kernel
theorem dL_law_209 : decode cL_law 209 = .ok (.aload_n 1, 1) := by decide +kernel
theorem dL_law_210 : decode cL_law 210 = .ok (.invokevirtual 27, 3) := by decide +kernel
theorem dL_law_213 : decode cL_law 213 = .ok (.aload_n 2, 1) := by decide +kernel
theorem dL_law_214 : decode cL_law 214 = .ok (.invokevirtual 30, 3) := by decide +kernel
theorem dL_law_217 : decode cL_law 217 = .ok (.if_icmp .eq 720, 3) := by decide +kernel
theorem dL_law_220 : decode cL_law 220 = .ok (.iconst 0, 1) := by decide +kernel
theorem dL_law_221 : decode cL_law 221 = .ok (.ireturn, 1) := by decide +kernel
theorem dL_law_222 : decode cL_law 222 = .ok (.aload_n 1, 1) := by decide +kernel
theorem dL_law_223 : decode cL_law 223 = .ok (.aload_n 0, 1) := by decide +kernel
theorem dL_law_224 : decode cL_law 224 = .ok (.iload_n 3, 1) := by decide +kernel
theorem dL_law_225 : decode cL_law 225 = .ok (.iconst 1, 1) := by decide +kernel
theorem dL_law_226 : decode cL_law 226 = .ok (.iadd, 1) := by decide +kernel
theorem dL_law_227 : decode cL_law 227 = .ok (.iaload, 1) := by decide +kernel
theorem dL_law_228 : decode cL_law 228 = .ok (.invokevirtual 31, 3) := by decide +kernel
theorem dL_law_231 : decode cL_law 231 = .ok (.aload_n 2, 1) := by decide +kernel
theorem dL_law_232 : decode cL_law 232 = .ok (.aload_n 0, 1) := by decide +kernel
theorem dL_law_233 : decode cL_law 233 = .ok (.iload_n 3, 1) := by decide +kernel
theorem dL_law_234 : decode cL_law 234 = .ok (.iconst 1, 1) := by decide +kernel
theorem dL_law_235 : decode cL_law 235 = .ok (.iadd, 1) := by decide +kernel
theorem dL_law_236 : decode cL_law 236 = .ok (.iaload, 1) := by decide +kernel
theorem dL_law_237 : decode cL_law 237 = .ok (.invokevirtual 34, 3) := by decide +kernel
theorem dL_law_240 : decode cL_law 240 = .ok (.if_icmp .eq 697, 3) := by decide +kernel
theorem dL_law_243 : decode cL_law 243 = .ok (.iconst 0, 1) := by decide +kernel
theorem dL_law_244 : decode cL_law 244 = .ok (.ireturn, 1) := by decide +kernel
theorem dL_law_245 : decode cL_law 245 = .ok (.aload_n 1, 1) := by decide +kernel
theorem dL_law_246 : decode cL_law 246 = .ok (.aload_n 0, 1) := by decide +kernel
theorem dL_law_247 : decode cL_law 247 = .ok (.iload_n 3, 1) := by decide +kernel
theorem dL_law_248 : decode cL_law 248 = .ok (.iconst 1, 1) := by decide +kernel
theorem dL_law_249 : decode cL_law 249 = .ok (.iadd, 1) := by decide +kernel
theorem dL_law_250 : decode cL_law 250 = .ok (.iaload, 1) := by decide +kernel
theorem dL_law_251 : decode cL_law 251 = .ok (.aload_n 0, 1) := by decide +kernel
theorem dL_law_252 : decode cL_law 252 = .ok (.iload_n 3, 1) := by decide +kernel
theorem dL_law_253 : decode cL_law 253 = .ok (.iconst 2, 1) := by decide +kernel
theorem dL_law_254 : decode cL_law 254 = .ok (.iadd, 1) := by decide +kernel
theorem dL_law_255 : decode cL_law 255 = .ok (.iaload, 1) := by decide +kernel
theorem dL_law_256 : decode cL_law 256 = .ok (.invokevirtual 35, 3) := by decide +kernel
theorem dL_law_259 : decode cL_law 259 = .ok (.aload_n 2, 1) := by decide +kernel
theorem dL_law_260 : decode cL_law 260 = .ok (.aload_n 0, 1) := by decide +kernel
theorem dL_law_261 : decode cL_law 261 = .ok (.iload_n 3, 1) := by decide +kernel
