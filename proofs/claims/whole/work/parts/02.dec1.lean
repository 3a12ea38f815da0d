theorem dX0_init_0 : decode cX0_init 0 = .ok (.aload_n 0, 1) := by decide +kernel
theorem dX0_init_1 : decode cX0_init 1 = .ok (.invokespecial 3, 3) := by decide +kernel
theorem dX0_init_4 : decode cX0_init 4 = .ok (.aload_n 0, 1) := by decide +kernel
theorem dX0_init_5 : decode cX0_init 5 = .ok (.bipush 60, 2) := by decide +kernel
theorem dX0_init_7 : decode cX0_init 7 = .ok (.newarray .int, 2) := by decide +kernel
theorem dX0_init_9 : decode cX0_init 9 = .ok (.putfield 9, 3) := by decide +kernel
theorem dX0_init_12 : decode cX0_init 12 = .ok (.aload_n 0, 1) := by decide +kernel
theorem dX0_init_13 : decode cX0_init 13 = .ok (.bipush 60, 2) := by decide +kernel
theorem dX0_init_15 : decode cX0_init 15 = .ok (.newarray .int, 2) := by decide +kernel
theorem dX0_init_17 : decode cX0_init 17 = .ok (.putfield 15, 3) := by decide +kernel
theorem dX0_init_20 : decode cX0_init 20 = .ok (.return_, 1) := by decide +kernel
theorem dX0_take_0 : decode cX0_take 0 = .ok (.aload_n 1, 1) := by decide +kernel
theorem dX0_take_1 : decode cX0_take 1 = .ok (.iconst 0, 1) := by decide +kernel
theorem dX0_take_2 : decode cX0_take 2 = .ok (.aload_n 0, 1) := by decide +kernel
theorem dX0_take_3 : decode cX0_take 3 = .ok (.getfield 9, 3) := by decide +kernel
theorem dX0_take_6 : decode cX0_take 6 = .ok (.iconst 0, 1) := by decide +kernel
theorem dX0_take_7 : decode cX0_take 7 = .ok (.iload_n 2, 1) := by decide +kernel
theorem dX0_take_8 : decode cX0_take 8 = .ok (.invokestatic 18, 3) := by decide +kernel
theorem dX0_take_11 : decode cX0_take 11 = .ok (.aload_n 0, 1) := by decide +kernel
theorem dX0_take_12 : decode cX0_take 12 = .ok (.iload_n 2, 1) := by decide +kernel
theorem dX0_take_13 : decode cX0_take 13 = .ok (.putfield 24, 3) := by decide +kernel
theorem dX0_take_16 : decode cX0_take 16 = .ok (.return_, 1) := by decide +kernel
theorem dX0_gives_0 : decode cX0_gives 0 = .ok (.iconst 0, 1) := by decide +kernel
theorem dX0_gives_1 : decode cX0_gives 1 = .ok (.istore 4, 2) := by decide +kernel
theorem dX0_gives_3 : decode cX0_gives 3 = .ok (.iconst 0, 1) := by decide +kernel
theorem dX0_gives_4 : decode cX0_gives 4 = .ok (.istore 5, 2) := by decide +kernel
theorem dX0_gives_6 : decode cX0_gives 6 = .ok (.iload 5, 2) := by decide +kernel
theorem dX0_gives_8 : decode cX0_gives 8 = .ok (.aload_n 0, 1) := by decide +kernel
theorem dX0_gives_9 : decode cX0_gives 9 = .ok (.getfield 24, 3) := by decide +kernel
theorem dX0_gives_12 : decode cX0_gives 12 = .ok (.if_icmp .ge 158, 3) := by decide +kernel
theorem dX0_gives_15 : decode cX0_gives 15 = .ok (.aload_n 0, 1) := by decide +kernel
theorem dX0_gives_16 : decode cX0_gives 16 = .ok (.getfield 9, 3) := by decide +kernel
theorem dX0_gives_19 : decode cX0_gives 19 = .ok (.iload 5, 2) := by decide +kernel
theorem dX0_gives_21 : decode cX0_gives 21 = .ok (.iaload, 1) := by decide +kernel
theorem dX0_gives_22 : decode cX0_gives 22 = .ok (.istore 6, 2) := by decide +kernel
theorem dX0_gives_24 : decode cX0_gives 24 = .ok (.iload 6, 2) := by decide +kernel
theorem dX0_gives_26 : decode cX0_gives 26 = .ok (.bipush (-3), 2) := by decide +kernel
theorem dX0_gives_28 : decode cX0_gives 28 = .ok (.if_icmp .lt 55, 3) := by decide +kernel
theorem dX0_gives_31 : decode cX0_gives 31 = .ok (.iload 4, 2) := by decide +kernel
theorem dX0_gives_33 : decode cX0_gives 33 = .ok (.bipush 60, 2) := by decide +kernel
theorem dX0_gives_35 : decode cX0_gives 35 = .ok (.if_icmp .ge 48, 3) := by decide +kernel
theorem dX0_gives_38 : decode cX0_gives 38 = .ok (.aload_n 0, 1) := by decide +kernel
theorem dX0_gives_39 : decode cX0_gives 39 = .ok (.getfield 15, 3) := by decide +kernel
theorem dX0_gives_42 : decode cX0_gives 42 = .ok (.iload 4, 2) := by decide +kernel
theorem dX0_gives_44 : decode cX0_gives 44 = .ok (.iload 6, 2) := by decide +kernel
theorem dX0_gives_46 : decode cX0_gives 46 = .ok (.ifCond .lt 8, 3) := by decide +kernel
theorem dX0_gives_49 : decode cX0_gives 49 = .ok (.iload 6, 2) := by decide +kernel
theorem dX0_gives_51 : decode cX0_gives 51 = .ok (.goto 25, 3) := by decide +kernel
theorem dX0_gives_54 : decode cX0_gives 54 = .ok (.iload 6, 2) := by decide +kernel
theorem dX0_gives_56 : decode cX0_gives 56 = .ok (.iconst (-1), 1) := by decide +kernel
theorem dX0_gives_57 : decode cX0_gives 57 = .ok (.if_icmp .ne 7, 3) := by decide +kernel
theorem dX0_gives_60 : decode cX0_gives 60 = .ok (.iload_n 1, 1) := by decide +kernel
theorem dX0_gives_61 : decode cX0_gives 61 = .ok (.goto 15, 3) := by decide +kernel
theorem dX0_gives_64 : decode cX0_gives 64 = .ok (.iload 6, 2) := by decide +kernel
theorem dX0_gives_66 : decode cX0_gives 66 = .ok (.bipush (-3), 2) := by decide +kernel
theorem dX0_gives_68 : decode cX0_gives 68 = .ok (.if_icmp .ne 7, 3) := by decide +kernel
theorem dX0_gives_71 : decode cX0_gives 71 = .ok (.iload_n 3, 1) := by decide +kernel
theorem dX0_gives_72 : decode cX0_gives 72 = .ok (.goto 4, 3) := by decide +kernel
theorem dX0_gives_75 : decode cX0_gives 75 = .ok (.iload_n 2, 1) := by decide +kernel
theorem dX0_gives_76 : decode cX0_gives 76 = .ok (.iastore, 1) := by decide +kernel
theorem dX0_gives_77 : decode cX0_gives 77 = .ok (.iinc 4 1, 3) := by decide +kernel
theorem dX0_gives_80 : decode cX0_gives 80 = .ok (.goto 84, 3) := by decide +kernel
theorem dX0_gives_83 : decode cX0_gives 83 = .ok (.iload 6, 2) := by decide +kernel
theorem dX0_gives_85 : decode cX0_gives 85 = .ok (.bipush (-33), 2) := by decide +kernel
theorem dX0_gives_87 : decode cX0_gives 87 = .ok (.if_icmp .ne 37, 3) := by decide +kernel
theorem dX0_gives_90 : decode cX0_gives 90 = .ok (.iload 4, 2) := by decide +kernel
theorem dX0_gives_92 : decode cX0_gives 92 = .ok (.ifCond .le 32, 3) := by decide +kernel
theorem dX0_gives_95 : decode cX0_gives 95 = .ok (.aload_n 0, 1) := by decide +kernel
theorem dX0_gives_96 : decode cX0_gives 96 = .ok (.getfield 15, 3) := by decide +kernel
theorem dX0_gives_99 : decode cX0_gives 99 = .ok (.iload 4, 2) := by decide +kernel
theorem dX0_gives_101 : decode cX0_gives 101 = .ok (.iconst 1, 1) := by decide +kernel
theorem dX0_gives_102 : decode cX0_gives 102 = .ok (.isub, 1) := by decide +kernel
theorem dX0_gives_103 : decode cX0_gives 103 = .ok (.aload_n 0, 1) := by decide +kernel
theorem dX0_gives_104 : decode cX0_gives 104 = .ok (.getfield 15, 3) := by decide +kernel
theorem dX0_gives_107 : decode cX0_gives 107 = .ok (.iload 4, 2) := by decide +kernel
theorem dX0_gives_109 : decode cX0_gives 109 = .ok (.iconst 1, 1) := by decide +kernel
theorem dX0_gives_110 : decode cX0_gives 110 = .ok (.isub, 1) := by decide +kernel
theorem dX0_gives_111 : decode cX0_gives 111 = .ok (.iaload, 1) := by decide +kernel
theorem dX0_gives_112 : decode cX0_gives 112 = .ok (.ifCond .ne 7, 3) := by decide +kernel
theorem dX0_gives_115 : decode cX0_gives 115 = .ok (.iconst 1, 1) := by decide +kernel
theorem dX0_gives_116 : decode cX0_gives 116 = .ok (.goto 4, 3) := by decide +kernel
theorem dX0_gives_119 : decode cX0_gives 119 = .ok (.iconst 0, 1) := by decide +kernel
theorem dX0_gives_120 : decode cX0_gives 120 = .ok (.iastore, 1) := by decide +kernel
theorem dX0_gives_121 : decode cX0_gives 121 = .ok (.goto 43, 3) := by decide +kernel
theorem dX0_gives_124 : decode cX0_gives 124 = .ok (.iload 4, 2) := by decide +kernel
theorem dX0_gives_126 : decode cX0_gives 126 = .ok (.iconst 1, 1) := by decide +kernel
theorem dX0_gives_127 : decode cX0_gives 127 = .ok (.if_icmp .le 37, 3) := by decide +kernel
theorem dX0_gives_130 : decode cX0_gives 130 = .ok (.iinc 4 (-1), 3) := by decide +kernel
theorem dX0_gives_133 : decode cX0_gives 133 = .ok (.aload_n 0, 1) := by decide +kernel
theorem dX0_gives_134 : decode cX0_gives 134 = .ok (.getfield 15, 3) := by decide +kernel
theorem dX0_gives_137 : decode cX0_gives 137 = .ok (.iload 4, 2) := by decide +kernel
theorem dX0_gives_139 : decode cX0_gives 139 = .ok (.iconst 1, 1) := by decide +kernel
theorem dX0_gives_140 : decode cX0_gives 140 = .ok (.isub, 1) := by decide +kernel
theorem dX0_gives_141 : decode cX0_gives 141 = .ok (.iload 6, 2) := by decide +kernel
theorem dX0_gives_143 : decode cX0_gives 143 = .ok (.ineg, 1) := by decide +kernel
theorem dX0_gives_144 : decode cX0_gives 144 = .ok (.aload_n 0, 1) := by decide +kernel
theorem dX0_gives_145 : decode cX0_gives 145 = .ok (.getfield 15, 3) := by decide +kernel
theorem dX0_gives_148 : decode cX0_gives 148 = .ok (.iload 4, 2) := by decide +kernel
theorem dX0_gives_150 : decode cX0_gives 150 = .ok (.iconst 1, 1) := by decide +kernel
theorem dX0_gives_151 : decode cX0_gives 151 = .ok (.isub, 1) := by decide +kernel
theorem dX0_gives_152 : decode cX0_gives 152 = .ok (.iaload, 1) := by decide +kernel
theorem dX0_gives_153 : decode cX0_gives 153 = .ok (.aload_n 0, 1) := by decide +kernel
theorem dX0_gives_154 : decode cX0_gives 154 = .ok (.getfield 15, 3) := by decide +kernel
theorem dX0_gives_157 : decode cX0_gives 157 = .ok (.iload 4, 2) := by decide +kernel
theorem dX0_gives_159 : decode cX0_gives 159 = .ok (.iaload, 1) := by decide +kernel
theorem dX0_gives_160 : decode cX0_gives 160 = .ok (.invokestatic 28, 3) := by decide +kernel
theorem dX0_gives_163 : decode cX0_gives 163 = .ok (.iastore, 1) := by decide +kernel
theorem dX0_gives_164 : decode cX0_gives 164 = .ok (.iinc 5 1, 3) := by decide +kernel
theorem dX0_gives_167 : decode cX0_gives 167 = .ok (.goto (-161), 3) := by decide +kernel
theorem dX0_gives_170 : decode cX0_gives 170 = .ok (.aload_n 0, 1) := by decide +kernel
theorem dX0_gives_171 : decode cX0_gives 171 = .ok (.getfield 15, 3) := by decide +kernel
theorem dX0_gives_174 : decode cX0_gives 174 = .ok (.iconst 0, 1) := by decide +kernel
theorem dX0_gives_175 : decode cX0_gives 175 = .ok (.iaload, 1) := by decide +kernel
theorem dX0_gives_176 : decode cX0_gives 176 = .ok (.ireturn, 1) := by decide +kernel
theorem dX0_join_0 : decode cX0_join 0 = .ok (.iload_n 0, 1) := by decide +kernel
theorem dX0_join_1 : decode cX0_join 1 = .ok (.lookupswitch 188 #[(37, 176), (38, 105), (42, 160), (43, 152), (45, 156), (47, 164), (60, 119), (61, 130), (62, 141), (124, 91)], 91) := by decide +kernel
theorem dX0_join_92 : decode cX0_join 92 = .ok (.iload_n 1, 1) := by decide +kernel
theorem dX0_join_93 : decode cX0_join 93 = .ok (.ifCond .ne 7, 3) := by decide +kernel
theorem dX0_join_96 : decode cX0_join 96 = .ok (.iload_n 2, 1) := by decide +kernel
theorem dX0_join_97 : decode cX0_join 97 = .ok (.ifCond .eq 7, 3) := by decide +kernel
theorem dX0_join_100 : decode cX0_join 100 = .ok (.iconst 1, 1) := by decide +kernel
theorem dX0_join_101 : decode cX0_join 101 = .ok (.goto 4, 3) := by decide +kernel
theorem dX0_join_104 : decode cX0_join 104 = .ok (.iconst 0, 1) := by decide +kernel
theorem dX0_join_105 : decode cX0_join 105 = .ok (.ireturn, 1) := by decide +kernel
theorem dX0_join_106 : decode cX0_join 106 = .ok (.iload_n 1, 1) := by decide +kernel
theorem dX0_join_107 : decode cX0_join 107 = .ok (.ifCond .eq 11, 3) := by decide +kernel
theorem dX0_join_110 : decode cX0_join 110 = .ok (.iload_n 2, 1) := by decide +kernel
theorem dX0_join_111 : decode cX0_join 111 = .ok (.ifCond .eq 7, 3) := by decide +kernel
theorem dX0_join_114 : decode cX0_join 114 = .ok (.iconst 1, 1) := by decide +kernel
theorem dX0_join_115 : decode cX0_join 115 = .ok (.goto 4, 3) := by decide +kernel
theorem dX0_join_118 : decode cX0_join 118 = .ok (.iconst 0, 1) := by decide +kernel
theorem dX0_join_119 : decode cX0_join 119 = .ok (.ireturn, 1) := by decide +kernel
theorem dX0_join_120 : decode cX0_join 120 = .ok (.iload_n 1, 1) := by decide +kernel
theorem dX0_join_121 : decode cX0_join 121 = .ok (.iload_n 2, 1) := by decide +kernel
theorem dX0_join_122 : decode cX0_join 122 = .ok (.if_icmp .ge 7, 3) := by decide +kernel
theorem dX0_join_125 : decode cX0_join 125 = .ok (.iconst 1, 1) := by decide +kernel
theorem dX0_join_126 : decode cX0_join 126 = .ok (.goto 4, 3) := by decide +kernel
theorem dX0_join_129 : decode cX0_join 129 = .ok (.iconst 0, 1) := by decide +kernel
theorem dX0_join_130 : decode cX0_join 130 = .ok (.ireturn, 1) := by decide +kernel
theorem dX0_join_131 : decode cX0_join 131 = .ok (.iload_n 1, 1) := by decide +kernel
theorem dX0_join_132 : decode cX0_join 132 = .ok (.iload_n 2, 1) := by decide +kernel
theorem dX0_join_133 : decode cX0_join 133 = .ok (.if_icmp .ne 7, 3) := by decide +kernel
theorem dX0_join_136 : decode cX0_join 136 = .ok (.iconst 1, 1) := by decide +kernel
theorem dX0_join_137 : decode cX0_join 137 = .ok (.goto 4, 3) := by decide +kernel
theorem dX0_join_140 : decode cX0_join 140 = .ok (.iconst 0, 1) := by decide +kernel
theorem dX0_join_141 : decode cX0_join 141 = .ok (.ireturn, 1) := by decide +kernel
theorem dX0_join_142 : decode cX0_join 142 = .ok (.iload_n 1, 1) := by decide +kernel
theorem dX0_join_143 : decode cX0_join 143 = .ok (.iload_n 2, 1) := by decide +kernel
theorem dX0_join_144 : decode cX0_join 144 = .ok (.if_icmp .le 7, 3) := by decide +kernel
theorem dX0_join_147 : decode cX0_join 147 = .ok (.iconst 1, 1) := by decide +kernel
theorem dX0_join_148 : decode cX0_join 148 = .ok (.goto 4, 3) := by decide +kernel
theorem dX0_join_151 : decode cX0_join 151 = .ok (.iconst 0, 1) := by decide +kernel
theorem dX0_join_152 : decode cX0_join 152 = .ok (.ireturn, 1) := by decide +kernel
theorem dX0_join_153 : decode cX0_join 153 = .ok (.iload_n 1, 1) := by decide +kernel
theorem dX0_join_154 : decode cX0_join 154 = .ok (.iload_n 2, 1) := by decide +kernel
theorem dX0_join_155 : decode cX0_join 155 = .ok (.iadd, 1) := by decide +kernel
theorem dX0_join_156 : decode cX0_join 156 = .ok (.ireturn, 1) := by decide +kernel
theorem dX0_join_157 : decode cX0_join 157 = .ok (.iload_n 1, 1) := by decide +kernel
theorem dX0_join_158 : decode cX0_join 158 = .ok (.iload_n 2, 1) := by decide +kernel
theorem dX0_join_159 : decode cX0_join 159 = .ok (.isub, 1) := by decide +kernel
theorem dX0_join_160 : decode cX0_join 160 = .ok (.ireturn, 1) := by decide +kernel
theorem dX0_join_161 : decode cX0_join 161 = .ok (.iload_n 1, 1) := by decide +kernel
theorem dX0_join_162 : decode cX0_join 162 = .ok (.iload_n 2, 1) := by decide +kernel
theorem dX0_join_163 : decode cX0_join 163 = .ok (.imul, 1) := by decide +kernel
theorem dX0_join_164 : decode cX0_join 164 = .ok (.ireturn, 1) := by decide +kernel
theorem dX0_join_165 : decode cX0_join 165 = .ok (.iload_n 2, 1) := by decide +kernel
theorem dX0_join_166 : decode cX0_join 166 = .ok (.ifCond .ne 7, 3) := by decide +kernel
theorem dX0_join_169 : decode cX0_join 169 = .ok (.iconst 0, 1) := by decide +kernel
theorem dX0_join_170 : decode cX0_join 170 = .ok (.goto 6, 3) := by decide +kernel
theorem dX0_join_173 : decode cX0_join 173 = .ok (.iload_n 1, 1) := by decide +kernel
theorem dX0_join_174 : decode cX0_join 174 = .ok (.iload_n 2, 1) := by decide +kernel
theorem dX0_join_175 : decode cX0_join 175 = .ok (.idiv, 1) := by decide +kernel
theorem dX0_join_176 : decode cX0_join 176 = .ok (.ireturn, 1) := by decide +kernel
theorem dX0_join_177 : decode cX0_join 177 = .ok (.iload_n 2, 1) := by decide +kernel
theorem dX0_join_178 : decode cX0_join 178 = .ok (.ifCond .ne 7, 3) := by decide +kernel
theorem dX0_join_181 : decode cX0_join 181 = .ok (.iconst 0, 1) := by decide +kernel
theorem dX0_join_182 : decode cX0_join 182 = .ok (.goto 6, 3) := by decide +kernel
theorem dX0_join_185 : decode cX0_join 185 = .ok (.iload_n 1, 1) := by decide +kernel
theorem dX0_join_186 : decode cX0_join 186 = .ok (.iload_n 2, 1) := by decide +kernel
theorem dX0_join_187 : decode cX0_join 187 = .ok (.irem, 1) := by decide +kernel
theorem dX0_join_188 : decode cX0_join 188 = .ok (.ireturn, 1) := by decide +kernel
theorem dX0_join_189 : decode cX0_join 189 = .ok (.iconst 0, 1) := by decide +kernel
theorem dX0_join_190 : decode cX0_join 190 = .ok (.ireturn, 1) := by decide +kernel
theorem dX1_init_0 : decode cX1_init 0 = .ok (.aload_n 0, 1) := by decide +kernel
theorem dX1_init_1 : decode cX1_init 1 = .ok (.invokespecial 3, 3) := by decide +kernel
theorem dX1_init_4 : decode cX1_init 4 = .ok (.aload_n 0, 1) := by decide +kernel
theorem dX1_init_5 : decode cX1_init 5 = .ok (.bipush 60, 2) := by decide +kernel
theorem dX1_init_7 : decode cX1_init 7 = .ok (.newarray .int, 2) := by decide +kernel
theorem dX1_init_9 : decode cX1_init 9 = .ok (.putfield 9, 3) := by decide +kernel
theorem dX1_init_12 : decode cX1_init 12 = .ok (.aload_n 0, 1) := by decide +kernel
theorem dX1_init_13 : decode cX1_init 13 = .ok (.ldc 15, 2) := by decide +kernel
theorem dX1_init_15 : decode cX1_init 15 = .ok (.putfield 17, 3) := by decide +kernel
theorem dX1_init_18 : decode cX1_init 18 = .ok (.aload_n 0, 1) := by decide +kernel
theorem dX1_init_19 : decode cX1_init 19 = .ok (.aload_n 1, 1) := by decide +kernel
theorem dX1_init_20 : decode cX1_init 20 = .ok (.putfield 21, 3) := by decide +kernel
theorem dX1_init_23 : decode cX1_init 23 = .ok (.return_, 1) := by decide +kernel
theorem dX1_readTape_0 : decode cX1_readTape 0 = .ok (.aload_n 0, 1) := by decide +kernel
theorem dX1_readTape_1 : decode cX1_readTape 1 = .ok (.iconst 0, 1) := by decide +kernel
theorem dX1_readTape_2 : decode cX1_readTape 2 = .ok (.putfield 25, 3) := by decide +kernel
theorem dX1_readTape_5 : decode cX1_readTape 5 = .ok (.aload_n 0, 1) := by decide +kernel
theorem dX1_readTape_6 : decode cX1_readTape 6 = .ok (.iconst 0, 1) := by decide +kernel
theorem dX1_readTape_7 : decode cX1_readTape 7 = .ok (.putfield 29, 3) := by decide +kernel
theorem dX1_readTape_10 : decode cX1_readTape 10 = .ok (.aload_n 0, 1) := by decide +kernel
theorem dX1_readTape_11 : decode cX1_readTape 11 = .ok (.iload_n 1, 1) := by decide +kernel
theorem dX1_readTape_12 : decode cX1_readTape 12 = .ok (.ifCond .ne 8, 3) := by decide +kernel
theorem dX1_readTape_15 : decode cX1_readTape 15 = .ok (.ldc 32, 2) := by decide +kernel
theorem dX1_readTape_17 : decode cX1_readTape 17 = .ok (.goto 5, 3) := by decide +kernel
theorem dX1_readTape_20 : decode cX1_readTape 20 = .ok (.ldc 34, 2) := by decide +kernel
theorem dX1_readTape_22 : decode cX1_readTape 22 = .ok (.putfield 17, 3) := by decide +kernel
theorem dX1_readTape_25 : decode cX1_readTape 25 = .ok (.aload_n 0, 1) := by decide +kernel
theorem dX1_readTape_26 : decode cX1_readTape 26 = .ok (.iconst 0, 1) := by decide +kernel
theorem dX1_readTape_27 : decode cX1_readTape 27 = .ok (.iconst 0, 1) := by decide +kernel
theorem dX1_readTape_28 : decode cX1_readTape 28 = .ok (.invokevirtual 36, 3) := by decide +kernel
theorem dX1_readTape_31 : decode cX1_readTape 31 = .ok (.ifCond .eq 21, 3) := by decide +kernel
theorem dX1_readTape_34 : decode cX1_readTape 34 = .ok (.aload_n 0, 1) := by decide +kernel
theorem dX1_readTape_35 : decode cX1_readTape 35 = .ok (.getfield 29, 3) := by decide +kernel
theorem dX1_readTape_38 : decode cX1_readTape 38 = .ok (.aload_n 0, 1) := by decide +kernel
theorem dX1_readTape_39 : decode cX1_readTape 39 = .ok (.getfield 21, 3) := by decide +kernel
theorem dX1_readTape_42 : decode cX1_readTape 42 = .ok (.getfield 40, 3) := by decide +kernel
theorem dX1_readTape_45 : decode cX1_readTape 45 = .ok (.if_icmp .ne 7, 3) := by decide +kernel
theorem dX1_readTape_48 : decode cX1_readTape 48 = .ok (.iconst (-1), 1) := by decide +kernel
theorem dX1_readTape_49 : decode cX1_readTape 49 = .ok (.goto 7, 3) := by decide +kernel
theorem dX1_readTape_52 : decode cX1_readTape 52 = .ok (.aload_n 0, 1) := by decide +kernel
theorem dX1_readTape_53 : decode cX1_readTape 53 = .ok (.getfield 29, 3) := by decide +kernel
theorem dX1_readTape_56 : decode cX1_readTape 56 = .ok (.ireturn, 1) := by decide +kernel
theorem dX1_next_0 : decode cX1_next 0 = .ok (.aload_n 0, 1) := by decide +kernel
theorem dX1_next_1 : decode cX1_next 1 = .ok (.getfield 29, 3) := by decide +kernel
theorem dX1_next_4 : decode cX1_next 4 = .ok (.aload_n 0, 1) := by decide +kernel
theorem dX1_next_5 : decode cX1_next 5 = .ok (.getfield 21, 3) := by decide +kernel
theorem dX1_next_8 : decode cX1_next 8 = .ok (.getfield 40, 3) := by decide +kernel
theorem dX1_next_11 : decode cX1_next 11 = .ok (.if_icmp .ge 22, 3) := by decide +kernel
theorem dX1_next_14 : decode cX1_next 14 = .ok (.aload_n 0, 1) := by decide +kernel
theorem dX1_next_15 : decode cX1_next 15 = .ok (.getfield 21, 3) := by decide +kernel
theorem dX1_next_18 : decode cX1_next 18 = .ok (.getfield 45, 3) := by decide +kernel
theorem dX1_next_21 : decode cX1_next 21 = .ok (.aload_n 0, 1) := by decide +kernel
theorem dX1_next_22 : decode cX1_next 22 = .ok (.getfield 29, 3) := by decide +kernel
theorem dX1_next_25 : decode cX1_next 25 = .ok (.baload, 1) := by decide +kernel
theorem dX1_next_26 : decode cX1_next 26 = .ok (.sipush 255, 3) := by decide +kernel
theorem dX1_next_29 : decode cX1_next 29 = .ok (.iand, 1) := by decide +kernel
theorem dX1_next_30 : decode cX1_next 30 = .ok (.goto 4, 3) := by decide +kernel
theorem dX1_next_33 : decode cX1_next 33 = .ok (.iconst (-1), 1) := by decide +kernel
theorem dX1_next_34 : decode cX1_next 34 = .ok (.ireturn, 1) := by decide +kernel
theorem dX1_write_0 : decode cX1_write 0 = .ok (.aload_n 0, 1) := by decide +kernel
theorem dX1_write_1 : decode cX1_write 1 = .ok (.getfield 25, 3) := by decide +kernel
theorem dX1_write_4 : decode cX1_write 4 = .ok (.bipush 60, 2) := by decide +kernel
theorem dX1_write_6 : decode cX1_write 6 = .ok (.if_icmp .ge 23, 3) := by decide +kernel
theorem dX1_write_9 : decode cX1_write 9 = .ok (.aload_n 0, 1) := by decide +kernel
theorem dX1_write_10 : decode cX1_write 10 = .ok (.getfield 9, 3) := by decide +kernel
theorem dX1_write_13 : decode cX1_write 13 = .ok (.aload_n 0, 1) := by decide +kernel
theorem dX1_write_14 : decode cX1_write 14 = .ok (.getfield 25, 3) := by decide +kernel
theorem dX1_write_17 : decode cX1_write 17 = .ok (.iload_n 1, 1) := by decide +kernel
theorem dX1_write_18 : decode cX1_write 18 = .ok (.iastore, 1) := by decide +kernel
theorem dX1_write_19 : decode cX1_write 19 = .ok (.aload_n 0, 1) := by decide +kernel
theorem dX1_write_20 : decode cX1_write 20 = .ok (.dup, 1) := by decide +kernel
theorem dX1_write_21 : decode cX1_write 21 = .ok (.getfield 25, 3) := by decide +kernel
theorem dX1_write_24 : decode cX1_write 24 = .ok (.iconst 1, 1) := by decide +kernel
theorem dX1_write_25 : decode cX1_write 25 = .ok (.iadd, 1) := by decide +kernel
theorem dX1_write_26 : decode cX1_write 26 = .ok (.putfield 25, 3) := by decide +kernel
theorem dX1_write_29 : decode cX1_write 29 = .ok (.return_, 1) := by decide +kernel
theorem dX1_readPart_0 : decode cX1_readPart 0 = .ok (.aload_n 0, 1) := by decide +kernel
theorem dX1_readPart_1 : decode cX1_readPart 1 = .ok (.iload_n 1, 1) := by decide +kernel
theorem dX1_readPart_2 : decode cX1_readPart 2 = .ok (.iconst 1, 1) := by decide +kernel
theorem dX1_readPart_3 : decode cX1_readPart 3 = .ok (.iadd, 1) := by decide +kernel
theorem dX1_readPart_4 : decode cX1_readPart 4 = .ok (.iload_n 2, 1) := by decide +kernel
theorem dX1_readPart_5 : decode cX1_readPart 5 = .ok (.invokevirtual 49, 3) := by decide +kernel
theorem dX1_readPart_8 : decode cX1_readPart 8 = .ok (.istore_n 3, 1) := by decide +kernel
theorem dX1_readPart_9 : decode cX1_readPart 9 = .ok (.iload_n 1, 1) := by decide +kernel
theorem dX1_readPart_10 : decode cX1_readPart 10 = .ok (.iconst 2, 1) := by decide +kernel
theorem dX1_readPart_11 : decode cX1_readPart 11 = .ok (.if_icmp .ne 7, 3) := by decide +kernel
theorem dX1_readPart_14 : decode cX1_readPart 14 = .ok (.iconst 1, 1) := by decide +kernel
theorem dX1_readPart_15 : decode cX1_readPart 15 = .ok (.goto 5, 3) := by decide +kernel
theorem dX1_readPart_18 : decode cX1_readPart 18 = .ok (.bipush 60, 2) := by decide +kernel
theorem dX1_readPart_20 : decode cX1_readPart 20 = .ok (.istore 4, 2) := by decide +kernel
theorem dX1_readPart_22 : decode cX1_readPart 22 = .ok (.iconst 0, 1) := by decide +kernel
theorem dX1_readPart_23 : decode cX1_readPart 23 = .ok (.istore 5, 2) := by decide +kernel
theorem dX1_readPart_25 : decode cX1_readPart 25 = .ok (.iload 5, 2) := by decide +kernel
theorem dX1_readPart_27 : decode cX1_readPart 27 = .ok (.iload 4, 2) := by decide +kernel
theorem dX1_readPart_29 : decode cX1_readPart 29 = .ok (.if_icmp .ge 56, 3) := by decide +kernel
theorem dX1_readPart_32 : decode cX1_readPart 32 = .ok (.iload_n 3, 1) := by decide +kernel
theorem dX1_readPart_33 : decode cX1_readPart 33 = .ok (.ifCond .eq 52, 3) := by decide +kernel
theorem dX1_readPart_36 : decode cX1_readPart 36 = .ok (.aload_n 0, 1) := by decide +kernel
theorem dX1_readPart_37 : decode cX1_readPart 37 = .ok (.invokevirtual 52, 3) := by decide +kernel
theorem dX1_readPart_40 : decode cX1_readPart 40 = .ok (.invokestatic 56, 3) := by decide +kernel
theorem dX1_readPart_43 : decode cX1_readPart 43 = .ok (.iload_n 1, 1) := by decide +kernel
theorem dX1_readPart_44 : decode cX1_readPart 44 = .ok (.if_icmp .ne 41, 3) := by decide +kernel
theorem dX1_readPart_47 : decode cX1_readPart 47 = .ok (.aload_n 0, 1) := by decide +kernel
theorem dX1_readPart_48 : decode cX1_readPart 48 = .ok (.invokevirtual 52, 3) := by decide +kernel
theorem dX1_readPart_51 : decode cX1_readPart 51 = .ok (.istore 6, 2) := by decide +kernel
theorem dX1_readPart_53 : decode cX1_readPart 53 = .ok (.aload_n 0, 1) := by decide +kernel
theorem dX1_readPart_54 : decode cX1_readPart 54 = .ok (.dup, 1) := by decide +kernel
theorem dX1_readPart_55 : decode cX1_readPart 55 = .ok (.getfield 29, 3) := by decide +kernel
theorem dX1_readPart_58 : decode cX1_readPart 58 = .ok (.iconst 1, 1) := by decide +kernel
theorem dX1_readPart_59 : decode cX1_readPart 59 = .ok (.iadd, 1) := by decide +kernel
theorem dX1_readPart_60 : decode cX1_readPart 60 = .ok (.putfield 29, 3) := by decide +kernel
theorem dX1_readPart_63 : decode cX1_readPart 63 = .ok (.aload_n 0, 1) := by decide +kernel
theorem dX1_readPart_64 : decode cX1_readPart 64 = .ok (.iload_n 1, 1) := by decide +kernel
theorem dX1_readPart_65 : decode cX1_readPart 65 = .ok (.iconst 1, 1) := by decide +kernel
theorem dX1_readPart_66 : decode cX1_readPart 66 = .ok (.iadd, 1) := by decide +kernel
theorem dX1_readPart_67 : decode cX1_readPart 67 = .ok (.iload_n 2, 1) := by decide +kernel
theorem dX1_readPart_68 : decode cX1_readPart 68 = .ok (.invokevirtual 49, 3) := by decide +kernel
theorem dX1_readPart_71 : decode cX1_readPart 71 = .ok (.istore_n 3, 1) := by decide +kernel
theorem dX1_readPart_72 : decode cX1_readPart 72 = .ok (.aload_n 0, 1) := by decide +kernel
theorem dX1_readPart_73 : decode cX1_readPart 73 = .ok (.iload 6, 2) := by decide +kernel
theorem dX1_readPart_75 : decode cX1_readPart 75 = .ok (.ineg, 1) := by decide +kernel
theorem dX1_readPart_76 : decode cX1_readPart 76 = .ok (.invokevirtual 60, 3) := by decide +kernel
theorem dX1_readPart_79 : decode cX1_readPart 79 = .ok (.iinc 5 1, 3) := by decide +kernel
theorem dX1_readPart_82 : decode cX1_readPart 82 = .ok (.goto (-57), 3) := by decide +kernel
theorem dX1_readPart_85 : decode cX1_readPart 85 = .ok (.iload_n 3, 1) := by decide +kernel
theorem dX1_readPart_86 : decode cX1_readPart 86 = .ok (.ireturn, 1) := by decide +kernel
theorem dX1_readSide_0 : decode cX1_readSide 0 = .ok (.iload_n 1, 1) := by decide +kernel
theorem dX1_readSide_1 : decode cX1_readSide 1 = .ok (.iconst 5, 1) := by decide +kernel
theorem dX1_readSide_2 : decode cX1_readSide 2 = .ok (.if_icmp .ge 12, 3) := by decide +kernel
theorem dX1_readSide_5 : decode cX1_readSide 5 = .ok (.aload_n 0, 1) := by decide +kernel
theorem dX1_readSide_6 : decode cX1_readSide 6 = .ok (.iload_n 1, 1) := by decide +kernel
theorem dX1_readSide_7 : decode cX1_readSide 7 = .ok (.iload_n 2, 1) := by decide +kernel
theorem dX1_readSide_8 : decode cX1_readSide 8 = .ok (.invokevirtual 36, 3) := by decide +kernel
theorem dX1_readSide_11 : decode cX1_readSide 11 = .ok (.goto 8, 3) := by decide +kernel
theorem dX1_readSide_14 : decode cX1_readSide 14 = .ok (.aload_n 0, 1) := by decide +kernel
theorem dX1_readSide_15 : decode cX1_readSide 15 = .ok (.iload_n 2, 1) := by decide +kernel
theorem dX1_readSide_16 : decode cX1_readSide 16 = .ok (.invokevirtual 64, 3) := by decide +kernel
theorem dX1_readSide_19 : decode cX1_readSide 19 = .ok (.ireturn, 1) := by decide +kernel
theorem dX1_readSingle_0 : decode cX1_readSingle 0 = .ok (.aload_n 0, 1) := by decide +kernel
theorem dX1_readSingle_1 : decode cX1_readSingle 1 = .ok (.invokevirtual 52, 3) := by decide +kernel
theorem dX1_readSingle_4 : decode cX1_readSingle 4 = .ok (.istore_n 2, 1) := by decide +kernel
theorem dX1_readSingle_5 : decode cX1_readSingle 5 = .ok (.iload_n 2, 1) := by decide +kernel
theorem dX1_readSingle_6 : decode cX1_readSingle 6 = .ok (.invokestatic 68, 3) := by decide +kernel
theorem dX1_readSingle_9 : decode cX1_readSingle 9 = .ok (.ifCond .eq 9, 3) := by decide +kernel
theorem dX1_readSingle_12 : decode cX1_readSingle 12 = .ok (.aload_n 0, 1) := by decide +kernel
theorem dX1_readSingle_13 : decode cX1_readSingle 13 = .ok (.invokevirtual 71, 3) := by decide +kernel
theorem dX1_readSingle_16 : decode cX1_readSingle 16 = .ok (.iconst 1, 1) := by decide +kernel
theorem dX1_readSingle_17 : decode cX1_readSingle 17 = .ok (.ireturn, 1) := by decide +kernel
theorem dX1_readSingle_18 : decode cX1_readSingle 18 = .ok (.iload_n 2, 1) := by decide +kernel
theorem dX1_readSingle_19 : decode cX1_readSingle 19 = .ok (.iconst (-1), 1) := by decide +kernel
theorem dX1_readSingle_20 : decode cX1_readSingle 20 = .ok (.if_icmp .ne 7, 3) := by decide +kernel
theorem dX1_readSingle_23 : decode cX1_readSingle 23 = .ok (.iconst (-1), 1) := by decide +kernel
theorem dX1_readSingle_24 : decode cX1_readSingle 24 = .ok (.goto 12, 3) := by decide +kernel
theorem dX1_readSingle_27 : decode cX1_readSingle 27 = .ok (.aload_n 0, 1) := by decide +kernel
theorem dX1_readSingle_28 : decode cX1_readSingle 28 = .ok (.getfield 17, 3) := by decide +kernel
theorem dX1_readSingle_31 : decode cX1_readSingle 31 = .ok (.iload_n 2, 1) := by decide +kernel
theorem dX1_readSingle_32 : decode cX1_readSingle 32 = .ok (.i2c, 1) := by decide +kernel
theorem dX1_readSingle_33 : decode cX1_readSingle 33 = .ok (.invokevirtual 74, 3) := by decide +kernel
theorem dX1_readSingle_36 : decode cX1_readSingle 36 = .ok (.istore_n 3, 1) := by decide +kernel
theorem dX1_readSingle_37 : decode cX1_readSingle 37 = .ok (.iload_n 3, 1) := by decide +kernel
theorem dX1_readSingle_38 : decode cX1_readSingle 38 = .ok (.ifCond .lt 22, 3) := by decide +kernel
theorem dX1_readSingle_41 : decode cX1_readSingle 41 = .ok (.aload_n 0, 1) := by decide +kernel
theorem dX1_readSingle_42 : decode cX1_readSingle 42 = .ok (.dup, 1) := by decide +kernel
theorem dX1_readSingle_43 : decode cX1_readSingle 43 = .ok (.getfield 29, 3) := by decide +kernel
theorem dX1_readSingle_46 : decode cX1_readSingle 46 = .ok (.iconst 1, 1) := by decide +kernel
theorem dX1_readSingle_47 : decode cX1_readSingle 47 = .ok (.iadd, 1) := by decide +kernel
theorem dX1_readSingle_48 : decode cX1_readSingle 48 = .ok (.putfield 29, 3) := by decide +kernel
theorem dX1_readSingle_51 : decode cX1_readSingle 51 = .ok (.aload_n 0, 1) := by decide +kernel
theorem dX1_readSingle_52 : decode cX1_readSingle 52 = .ok (.iconst (-1), 1) := by decide +kernel
theorem dX1_readSingle_53 : decode cX1_readSingle 53 = .ok (.iload_n 3, 1) := by decide +kernel
theorem dX1_readSingle_54 : decode cX1_readSingle 54 = .ok (.isub, 1) := by decide +kernel
theorem dX1_readSingle_55 : decode cX1_readSingle 55 = .ok (.invokevirtual 60, 3) := by decide +kernel
theorem dX1_readSingle_58 : decode cX1_readSingle 58 = .ok (.iconst 1, 1) := by decide +kernel
theorem dX1_readSingle_59 : decode cX1_readSingle 59 = .ok (.ireturn, 1) := by decide +kernel
theorem dX1_readSingle_60 : decode cX1_readSingle 60 = .ok (.iload_n 2, 1) := by decide +kernel
theorem dX1_readSingle_61 : decode cX1_readSingle 61 = .ok (.bipush 33, 2) := by decide +kernel
theorem dX1_readSingle_63 : decode cX1_readSingle 63 = .ok (.if_icmp .eq 9, 3) := by decide +kernel
theorem dX1_readSingle_66 : decode cX1_readSingle 66 = .ok (.iload_n 2, 1) := by decide +kernel
theorem dX1_readSingle_67 : decode cX1_readSingle 67 = .ok (.bipush 40, 2) := by decide +kernel
theorem dX1_readSingle_69 : decode cX1_readSingle 69 = .ok (.if_icmp .ne 8, 3) := by decide +kernel
theorem dX1_readSingle_72 : decode cX1_readSingle 72 = .ok (.iload_n 1, 1) := by decide +kernel
theorem dX1_readSingle_73 : decode cX1_readSingle 73 = .ok (.iconst 5, 1) := by decide +kernel
theorem dX1_readSingle_74 : decode cX1_readSingle 74 = .ok (.if_icmp .lt 5, 3) := by decide +kernel
theorem dX1_readSingle_77 : decode cX1_readSingle 77 = .ok (.iconst 0, 1) := by decide +kernel
theorem dX1_readSingle_78 : decode cX1_readSingle 78 = .ok (.ireturn, 1) := by decide +kernel
theorem dX1_readSingle_79 : decode cX1_readSingle 79 = .ok (.aload_n 0, 1) := by decide +kernel
theorem dX1_readSingle_80 : decode cX1_readSingle 80 = .ok (.dup, 1) := by decide +kernel
theorem dX1_readSingle_81 : decode cX1_readSingle 81 = .ok (.getfield 29, 3) := by decide +kernel
theorem dX1_readSingle_84 : decode cX1_readSingle 84 = .ok (.iconst 1, 1) := by decide +kernel
theorem dX1_readSingle_85 : decode cX1_readSingle 85 = .ok (.iadd, 1) := by decide +kernel
theorem dX1_readSingle_86 : decode cX1_readSingle 86 = .ok (.putfield 29, 3) := by decide +kernel
theorem dX1_readSingle_89 : decode cX1_readSingle 89 = .ok (.iload_n 2, 1) := by decide +kernel
theorem dX1_readSingle_90 : decode cX1_readSingle 90 = .ok (.bipush 33, 2) := by decide +kernel
theorem dX1_readSingle_92 : decode cX1_readSingle 92 = .ok (.if_icmp .ne 13, 3) := by decide +kernel
theorem dX1_readSingle_95 : decode cX1_readSingle 95 = .ok (.aload_n 0, 1) := by decide +kernel
theorem dX1_readSingle_96 : decode cX1_readSingle 96 = .ok (.iload_n 1, 1) := by decide +kernel
theorem dX1_readSingle_97 : decode cX1_readSingle 97 = .ok (.iconst 1, 1) := by decide +kernel
theorem dX1_readSingle_98 : decode cX1_readSingle 98 = .ok (.iadd, 1) := by decide +kernel
theorem dX1_readSingle_99 : decode cX1_readSingle 99 = .ok (.invokevirtual 81, 3) := by decide +kernel
theorem dX1_readSingle_102 : decode cX1_readSingle 102 = .ok (.goto 10, 3) := by decide +kernel
theorem dX1_readSingle_105 : decode cX1_readSingle 105 = .ok (.aload_n 0, 1) := by decide +kernel
theorem dX1_readSingle_106 : decode cX1_readSingle 106 = .ok (.iload_n 1, 1) := by decide +kernel
theorem dX1_readSingle_107 : decode cX1_readSingle 107 = .ok (.iconst 1, 1) := by decide +kernel
theorem dX1_readSingle_108 : decode cX1_readSingle 108 = .ok (.iadd, 1) := by decide +kernel
theorem dX1_readSingle_109 : decode cX1_readSingle 109 = .ok (.invokevirtual 84, 3) := by decide +kernel
theorem dX1_readSingle_112 : decode cX1_readSingle 112 = .ok (.ireturn, 1) := by decide +kernel
theorem dX1_readNot_0 : decode cX1_readNot 0 = .ok (.aload_n 0, 1) := by decide +kernel
theorem dX1_readNot_1 : decode cX1_readNot 1 = .ok (.iload_n 1, 1) := by decide +kernel
theorem dX1_readNot_2 : decode cX1_readNot 2 = .ok (.invokevirtual 64, 3) := by decide +kernel
theorem dX1_readNot_5 : decode cX1_readNot 5 = .ok (.istore_n 2, 1) := by decide +kernel
theorem dX1_readNot_6 : decode cX1_readNot 6 = .ok (.aload_n 0, 1) := by decide +kernel
theorem dX1_readNot_7 : decode cX1_readNot 7 = .ok (.bipush (-33), 2) := by decide +kernel
theorem dX1_readNot_9 : decode cX1_readNot 9 = .ok (.invokevirtual 60, 3) := by decide +kernel
theorem dX1_readNot_12 : decode cX1_readNot 12 = .ok (.iload_n 2, 1) := by decide +kernel
theorem dX1_readNot_13 : decode cX1_readNot 13 = .ok (.ireturn, 1) := by decide +kernel
theorem dX1_readBracket_0 : decode cX1_readBracket 0 = .ok (.aload_n 0, 1) := by decide +kernel
theorem dX1_readBracket_1 : decode cX1_readBracket 1 = .ok (.iconst 0, 1) := by decide +kernel
theorem dX1_readBracket_2 : decode cX1_readBracket 2 = .ok (.iload_n 1, 1) := by decide +kernel
theorem dX1_readBracket_3 : decode cX1_readBracket 3 = .ok (.invokevirtual 36, 3) := by decide +kernel
theorem dX1_readBracket_6 : decode cX1_readBracket 6 = .ok (.ifCond .eq 12, 3) := by decide +kernel
theorem dX1_readBracket_9 : decode cX1_readBracket 9 = .ok (.aload_n 0, 1) := by decide +kernel
theorem dX1_readBracket_10 : decode cX1_readBracket 10 = .ok (.invokevirtual 52, 3) := by decide +kernel
theorem dX1_readBracket_13 : decode cX1_readBracket 13 = .ok (.bipush 41, 2) := by decide +kernel
theorem dX1_readBracket_15 : decode cX1_readBracket 15 = .ok (.if_icmp .eq 5, 3) := by decide +kernel
theorem dX1_readBracket_18 : decode cX1_readBracket 18 = .ok (.iconst 0, 1) := by decide +kernel
theorem dX1_readBracket_19 : decode cX1_readBracket 19 = .ok (.ireturn, 1) := by decide +kernel
theorem dX1_readBracket_20 : decode cX1_readBracket 20 = .ok (.aload_n 0, 1) := by decide +kernel
theorem dX1_readBracket_21 : decode cX1_readBracket 21 = .ok (.dup, 1) := by decide +kernel
theorem dX1_readBracket_22 : decode cX1_readBracket 22 = .ok (.getfield 29, 3) := by decide +kernel
theorem dX1_readBracket_25 : decode cX1_readBracket 25 = .ok (.iconst 1, 1) := by decide +kernel
theorem dX1_readBracket_26 : decode cX1_readBracket 26 = .ok (.iadd, 1) := by decide +kernel
theorem dX1_readBracket_27 : decode cX1_readBracket 27 = .ok (.putfield 29, 3) := by decide +kernel
theorem dX1_readBracket_30 : decode cX1_readBracket 30 = .ok (.iconst 1, 1) := by decide +kernel
theorem dX1_readBracket_31 : decode cX1_readBracket 31 = .ok (.ireturn, 1) := by decide +kernel
theorem dX1_readNumber_0 : decode cX1_readNumber 0 = .ok (.iconst 0, 1) := by decide +kernel
theorem dX1_readNumber_1 : decode cX1_readNumber 1 = .ok (.istore_n 1, 1) := by decide +kernel
theorem dX1_readNumber_2 : decode cX1_readNumber 2 = .ok (.iconst 0, 1) := by decide +kernel
theorem dX1_readNumber_3 : decode cX1_readNumber 3 = .ok (.istore_n 2, 1) := by decide +kernel
theorem dX1_readNumber_4 : decode cX1_readNumber 4 = .ok (.iload_n 2, 1) := by decide +kernel
theorem dX1_readNumber_5 : decode cX1_readNumber 5 = .ok (.iconst 4, 1) := by decide +kernel
theorem dX1_readNumber_6 : decode cX1_readNumber 6 = .ok (.if_icmp .ge 42, 3) := by decide +kernel
theorem dX1_readNumber_9 : decode cX1_readNumber 9 = .ok (.aload_n 0, 1) := by decide +kernel
theorem dX1_readNumber_10 : decode cX1_readNumber 10 = .ok (.invokevirtual 52, 3) := by decide +kernel
theorem dX1_readNumber_13 : decode cX1_readNumber 13 = .ok (.invokestatic 68, 3) := by decide +kernel
theorem dX1_readNumber_16 : decode cX1_readNumber 16 = .ok (.ifCond .eq 32, 3) := by decide +kernel
theorem dX1_readNumber_19 : decode cX1_readNumber 19 = .ok (.iload_n 1, 1) := by decide +kernel
theorem dX1_readNumber_20 : decode cX1_readNumber 20 = .ok (.bipush 10, 2) := by decide +kernel
theorem dX1_readNumber_22 : decode cX1_readNumber 22 = .ok (.imul, 1) := by decide +kernel
theorem dX1_readNumber_23 : decode cX1_readNumber 23 = .ok (.aload_n 0, 1) := by decide +kernel
theorem dX1_readNumber_24 : decode cX1_readNumber 24 = .ok (.invokevirtual 52, 3) := by decide +kernel
theorem dX1_readNumber_27 : decode cX1_readNumber 27 = .ok (.iadd, 1) := by decide +kernel
theorem dX1_readNumber_28 : decode cX1_readNumber 28 = .ok (.bipush 48, 2) := by decide +kernel
theorem dX1_readNumber_30 : decode cX1_readNumber 30 = .ok (.isub, 1) := by decide +kernel
theorem dX1_readNumber_31 : decode cX1_readNumber 31 = .ok (.istore_n 1, 1) := by decide +kernel
theorem dX1_readNumber_32 : decode cX1_readNumber 32 = .ok (.aload_n 0, 1) := by decide +kernel
theorem dX1_readNumber_33 : decode cX1_readNumber 33 = .ok (.dup, 1) := by decide +kernel
theorem dX1_readNumber_34 : decode cX1_readNumber 34 = .ok (.getfield 29, 3) := by decide +kernel
theorem dX1_readNumber_37 : decode cX1_readNumber 37 = .ok (.iconst 1, 1) := by decide +kernel
theorem dX1_readNumber_38 : decode cX1_readNumber 38 = .ok (.iadd, 1) := by decide +kernel
theorem dX1_readNumber_39 : decode cX1_readNumber 39 = .ok (.putfield 29, 3) := by decide +kernel
theorem dX1_readNumber_42 : decode cX1_readNumber 42 = .ok (.iinc 2 1, 3) := by decide +kernel
theorem dX1_readNumber_45 : decode cX1_readNumber 45 = .ok (.goto (-41), 3) := by decide +kernel
theorem dX1_readNumber_48 : decode cX1_readNumber 48 = .ok (.aload_n 0, 1) := by decide +kernel
theorem dX1_readNumber_49 : decode cX1_readNumber 49 = .ok (.iload_n 1, 1) := by decide +kernel
theorem dX1_readNumber_50 : decode cX1_readNumber 50 = .ok (.invokevirtual 60, 3) := by decide +kernel
theorem dX1_readNumber_53 : decode cX1_readNumber 53 = .ok (.return_, 1) := by decide +kernel
theorem dX1_isDigit_0 : decode cX1_isDigit 0 = .ok (.iload_n 0, 1) := by decide +kernel
theorem dX1_isDigit_1 : decode cX1_isDigit 1 = .ok (.bipush 48, 2) := by decide +kernel
theorem dX1_isDigit_3 : decode cX1_isDigit 3 = .ok (.if_icmp .lt 13, 3) := by decide +kernel
theorem dX1_isDigit_6 : decode cX1_isDigit 6 = .ok (.iload_n 0, 1) := by decide +kernel
theorem dX1_isDigit_7 : decode cX1_isDigit 7 = .ok (.bipush 57, 2) := by decide +kernel
theorem dX1_isDigit_9 : decode cX1_isDigit 9 = .ok (.if_icmp .gt 7, 3) := by decide +kernel
theorem dX1_isDigit_12 : decode cX1_isDigit 12 = .ok (.iconst 1, 1) := by decide +kernel
theorem dX1_isDigit_13 : decode cX1_isDigit 13 = .ok (.goto 4, 3) := by decide +kernel
theorem dX1_isDigit_16 : decode cX1_isDigit 16 = .ok (.iconst 0, 1) := by decide +kernel
theorem dX1_isDigit_17 : decode cX1_isDigit 17 = .ok (.ireturn, 1) := by decide +kernel
theorem dX1_rankOf_0 : decode cX1_rankOf 0 = .ok (.iload_n 0, 1) := by decide +kernel
theorem dX1_rankOf_1 : decode cX1_rankOf 1 = .ok (.lookupswitch 101 #[(37, 99), (38, 93), (42, 99), (43, 97), (45, 97), (47, 99), (60, 95), (61, 95), (62, 95), (124, 91)], 91) := by decide +kernel
theorem dX1_rankOf_92 : decode cX1_rankOf 92 = .ok (.iconst 0, 1) := by decide +kernel
theorem dX1_rankOf_93 : decode cX1_rankOf 93 = .ok (.ireturn, 1) := by decide +kernel
theorem dX1_rankOf_94 : decode cX1_rankOf 94 = .ok (.iconst 1, 1) := by decide +kernel
theorem dX1_rankOf_95 : decode cX1_rankOf 95 = .ok (.ireturn, 1) := by decide +kernel
theorem dX1_rankOf_96 : decode cX1_rankOf 96 = .ok (.iconst 2, 1) := by decide +kernel
theorem dX1_rankOf_97 : decode cX1_rankOf 97 = .ok (.ireturn, 1) := by decide +kernel
theorem dX1_rankOf_98 : decode cX1_rankOf 98 = .ok (.iconst 3, 1) := by decide +kernel
theorem dX1_rankOf_99 : decode cX1_rankOf 99 = .ok (.ireturn, 1) := by decide +kernel
theorem dX1_rankOf_100 : decode cX1_rankOf 100 = .ok (.iconst 4, 1) := by decide +kernel
theorem dX1_rankOf_101 : decode cX1_rankOf 101 = .ok (.ireturn, 1) := by decide +kernel
theorem dX1_rankOf_102 : decode cX1_rankOf 102 = .ok (.iconst 5, 1) := by decide +kernel
theorem dX1_rankOf_103 : decode cX1_rankOf 103 = .ok (.ireturn, 1) := by decide +kernel
theorem dX2_init_0 : decode cX2_init 0 = .ok (.aload_n 0, 1) := by decide +kernel
theorem dX2_init_1 : decode cX2_init 1 = .ok (.invokespecial 3, 3) := by decide +kernel
theorem dX2_init_4 : decode cX2_init 4 = .ok (.aload_n 0, 1) := by decide +kernel
theorem dX2_init_5 : decode cX2_init 5 = .ok (.bipush 24, 2) := by decide +kernel
theorem dX2_init_7 : decode cX2_init 7 = .ok (.newarray .int, 2) := by decide +kernel
theorem dX2_init_9 : decode cX2_init 9 = .ok (.putfield 9, 3) := by decide +kernel
theorem dX2_init_12 : decode cX2_init 12 = .ok (.return_, 1) := by decide +kernel
theorem dX2_isMissing_0 : decode cX2_isMissing 0 = .ok (.aload_n 0, 1) := by decide +kernel
theorem dX2_isMissing_1 : decode cX2_isMissing 1 = .ok (.getfield 15, 3) := by decide +kernel
theorem dX2_isMissing_4 : decode cX2_isMissing 4 = .ok (.ifCond .ne 7, 3) := by decide +kernel
theorem dX2_isMissing_7 : decode cX2_isMissing 7 = .ok (.iconst 1, 1) := by decide +kernel
theorem dX2_isMissing_8 : decode cX2_isMissing 8 = .ok (.goto 4, 3) := by decide +kernel
theorem dX2_isMissing_11 : decode cX2_isMissing 11 = .ok (.iconst 0, 1) := by decide +kernel
theorem dX2_isMissing_12 : decode cX2_isMissing 12 = .ok (.ireturn, 1) := by decide +kernel
theorem dX2_lay_0 : decode cX2_lay 0 = .ok (.aload_n 0, 1) := by decide +kernel
theorem dX2_lay_1 : decode cX2_lay 1 = .ok (.iload_n 1, 1) := by decide +kernel
theorem dX2_lay_2 : decode cX2_lay 2 = .ok (.putfield 15, 3) := by decide +kernel
theorem dX2_lay_5 : decode cX2_lay 5 = .ok (.aload_n 0, 1) := by decide +kernel
theorem dX2_lay_6 : decode cX2_lay 6 = .ok (.iload_n 2, 1) := by decide +kernel
theorem dX2_lay_7 : decode cX2_lay 7 = .ok (.putfield 19, 3) := by decide +kernel
theorem dX2_lay_10 : decode cX2_lay 10 = .ok (.iconst 0, 1) := by decide +kernel
theorem dX2_lay_11 : decode cX2_lay 11 = .ok (.istore_n 3, 1) := by decide +kernel
theorem dX2_lay_12 : decode cX2_lay 12 = .ok (.iload_n 3, 1) := by decide +kernel
theorem dX2_lay_13 : decode cX2_lay 13 = .ok (.iload_n 2, 1) := by decide +kernel
theorem dX2_lay_14 : decode cX2_lay 14 = .ok (.if_icmp .ge 16, 3) := by decide +kernel
theorem dX2_lay_17 : decode cX2_lay 17 = .ok (.aload_n 0, 1) := by decide +kernel
theorem dX2_lay_18 : decode cX2_lay 18 = .ok (.getfield 9, 3) := by decide +kernel
theorem dX2_lay_21 : decode cX2_lay 21 = .ok (.iload_n 3, 1) := by decide +kernel
theorem dX2_lay_22 : decode cX2_lay 22 = .ok (.iconst 0, 1) := by decide +kernel
theorem dX2_lay_23 : decode cX2_lay 23 = .ok (.iastore, 1) := by decide +kernel
theorem dX2_lay_24 : decode cX2_lay 24 = .ok (.iinc 3 1, 3) := by decide +kernel
theorem dX2_lay_27 : decode cX2_lay 27 = .ok (.goto (-15), 3) := by decide +kernel
theorem dX2_lay_30 : decode cX2_lay 30 = .ok (.return_, 1) := by decide +kernel
theorem dX2_write_0 : decode cX2_write 0 = .ok (.aload_n 0, 1) := by decide +kernel
theorem dX2_write_1 : decode cX2_write 1 = .ok (.getfield 9, 3) := by decide +kernel
theorem dX2_write_4 : decode cX2_write 4 = .ok (.iload_n 1, 1) := by decide +kernel
theorem dX2_write_5 : decode cX2_write 5 = .ok (.aload_n 0, 1) := by decide +kernel
theorem dX2_write_6 : decode cX2_write 6 = .ok (.getfield 15, 3) := by decide +kernel
theorem dX2_write_9 : decode cX2_write 9 = .ok (.bipush 8, 2) := by decide +kernel
theorem dX2_write_11 : decode cX2_write 11 = .ok (.if_icmp .ne 8, 3) := by decide +kernel
theorem dX2_write_14 : decode cX2_write 14 = .ok (.iload_n 2, 1) := by decide +kernel
theorem dX2_write_15 : decode cX2_write 15 = .ok (.i2b, 1) := by decide +kernel
theorem dX2_write_16 : decode cX2_write 16 = .ok (.goto 18, 3) := by decide +kernel
theorem dX2_write_19 : decode cX2_write 19 = .ok (.aload_n 0, 1) := by decide +kernel
theorem dX2_write_20 : decode cX2_write 20 = .ok (.getfield 15, 3) := by decide +kernel
theorem dX2_write_23 : decode cX2_write 23 = .ok (.bipush 16, 2) := by decide +kernel
theorem dX2_write_25 : decode cX2_write 25 = .ok (.if_icmp .ne 8, 3) := by decide +kernel
theorem dX2_write_28 : decode cX2_write 28 = .ok (.iload_n 2, 1) := by decide +kernel
theorem dX2_write_29 : decode cX2_write 29 = .ok (.i2s, 1) := by decide +kernel
theorem dX2_write_30 : decode cX2_write 30 = .ok (.goto 4, 3) := by decide +kernel
theorem dX2_write_33 : decode cX2_write 33 = .ok (.iload_n 2, 1) := by decide +kernel
theorem dX2_write_34 : decode cX2_write 34 = .ok (.iastore, 1) := by decide +kernel
theorem dX2_write_35 : decode cX2_write 35 = .ok (.return_, 1) := by decide +kernel
theorem dX2_holds_0 : decode cX2_holds 0 = .ok (.iload_n 1, 1) := by decide +kernel
theorem dX2_holds_1 : decode cX2_holds 1 = .ok (.ifCond .lt 21, 3) := by decide +kernel
theorem dX2_holds_4 : decode cX2_holds 4 = .ok (.iload_n 2, 1) := by decide +kernel
theorem dX2_holds_5 : decode cX2_holds 5 = .ok (.ifCond .lt 17, 3) := by decide +kernel
theorem dX2_holds_8 : decode cX2_holds 8 = .ok (.iload_n 1, 1) := by decide +kernel
theorem dX2_holds_9 : decode cX2_holds 9 = .ok (.aload_n 0, 1) := by decide +kernel
theorem dX2_holds_10 : decode cX2_holds 10 = .ok (.getfield 19, 3) := by decide +kernel
theorem dX2_holds_13 : decode cX2_holds 13 = .ok (.iload_n 2, 1) := by decide +kernel
theorem dX2_holds_14 : decode cX2_holds 14 = .ok (.isub, 1) := by decide +kernel
theorem dX2_holds_15 : decode cX2_holds 15 = .ok (.if_icmp .gt 7, 3) := by decide +kernel
theorem dX2_holds_18 : decode cX2_holds 18 = .ok (.iconst 1, 1) := by decide +kernel
theorem dX2_holds_19 : decode cX2_holds 19 = .ok (.goto 4, 3) := by decide +kernel
theorem dX2_holds_22 : decode cX2_holds 22 = .ok (.iconst 0, 1) := by decide +kernel
theorem dX2_holds_23 : decode cX2_holds 23 = .ok (.ireturn, 1) := by decide +kernel
theorem dX4_init_0 : decode cX4_init 0 = .ok (.aload_n 0, 1) := by decide +kernel
theorem dX4_init_1 : decode cX4_init 1 = .ok (.invokespecial 3, 3) := by decide +kernel
theorem dX4_init_4 : decode cX4_init 4 = .ok (.aload_n 0, 1) := by decide +kernel
theorem dX4_init_5 : decode cX4_init 5 = .ok (.bipush 30, 2) := by decide +kernel
theorem dX4_init_7 : decode cX4_init 7 = .ok (.newarray .int, 2) := by decide +kernel
theorem dX4_init_9 : decode cX4_init 9 = .ok (.putfield 9, 3) := by decide +kernel
theorem dX4_init_12 : decode cX4_init 12 = .ok (.return_, 1) := by decide +kernel
theorem dX4_hear_0 : decode cX4_hear 0 = .ok (.aload_n 0, 1) := by decide +kernel
theorem dX4_hear_1 : decode cX4_hear 1 = .ok (.iconst 0, 1) := by decide +kernel
theorem dX4_hear_2 : decode cX4_hear 2 = .ok (.putfield 15, 3) := by decide +kernel
theorem dX4_hear_5 : decode cX4_hear 5 = .ok (.aload_n 0, 1) := by decide +kernel
theorem dX4_hear_6 : decode cX4_hear 6 = .ok (.iconst 0, 1) := by decide +kernel
theorem dX4_hear_7 : decode cX4_hear 7 = .ok (.putfield 19, 3) := by decide +kernel
theorem dX4_hear_10 : decode cX4_hear 10 = .ok (.aload_n 0, 1) := by decide +kernel
theorem dX4_hear_11 : decode cX4_hear 11 = .ok (.aload_n 1, 1) := by decide +kernel
theorem dX4_hear_12 : decode cX4_hear 12 = .ok (.getfield 23, 3) := by decide +kernel
theorem dX4_hear_15 : decode cX4_hear 15 = .ok (.iload_n 2, 1) := by decide +kernel
theorem dX4_hear_16 : decode cX4_hear 16 = .ok (.iaload, 1) := by decide +kernel
theorem dX4_hear_17 : decode cX4_hear 17 = .ok (.putfield 28, 3) := by decide +kernel
theorem dX4_hear_20 : decode cX4_hear 20 = .ok (.aload_n 0, 1) := by decide +kernel
theorem dX4_hear_21 : decode cX4_hear 21 = .ok (.aload_n 1, 1) := by decide +kernel
theorem dX4_hear_22 : decode cX4_hear 22 = .ok (.getfield 30, 3) := by decide +kernel
theorem dX4_hear_25 : decode cX4_hear 25 = .ok (.iload_n 2, 1) := by decide +kernel
theorem dX4_hear_26 : decode cX4_hear 26 = .ok (.iaload, 1) := by decide +kernel
theorem dX4_hear_27 : decode cX4_hear 27 = .ok (.putfield 33, 3) := by decide +kernel
theorem dX4_hear_30 : decode cX4_hear 30 = .ok (.aload_n 0, 1) := by decide +kernel
theorem dX4_hear_31 : decode cX4_hear 31 = .ok (.iload_n 2, 1) := by decide +kernel
theorem dX4_hear_32 : decode cX4_hear 32 = .ok (.putfield 36, 3) := by decide +kernel
theorem dX4_hear_35 : decode cX4_hear 35 = .ok (.aload_n 0, 1) := by decide +kernel
theorem dX4_hear_36 : decode cX4_hear 36 = .ok (.iload_n 3, 1) := by decide +kernel
theorem dX4_hear_37 : decode cX4_hear 37 = .ok (.aload_n 0, 1) := by decide +kernel
theorem dX4_hear_38 : decode cX4_hear 38 = .ok (.getfield 28, 3) := by decide +kernel
theorem dX4_hear_41 : decode cX4_hear 41 = .ok (.iload 4, 2) := by decide +kernel
theorem dX4_hear_43 : decode cX4_hear 43 = .ok (.iconst 0, 1) := by decide +kernel
theorem dX4_hear_44 : decode cX4_hear 44 = .ok (.invokevirtual 39, 3) := by decide +kernel
theorem dX4_hear_47 : decode cX4_hear 47 = .ok (.ireturn, 1) := by decide +kernel
theorem dX4_find_0 : decode cX4_find 0 = .ok (.iload_n 1, 1) := by decide +kernel
theorem dX4_find_1 : decode cX4_find 1 = .ok (.istore_n 2, 1) := by decide +kernel
theorem dX4_find_2 : decode cX4_find 2 = .ok (.iconst 0, 1) := by decide +kernel
theorem dX4_find_3 : decode cX4_find 3 = .ok (.istore_n 3, 1) := by decide +kernel
theorem dX4_find_4 : decode cX4_find 4 = .ok (.iload_n 3, 1) := by decide +kernel
theorem dX4_find_5 : decode cX4_find 5 = .ok (.getstatic 43, 3) := by decide +kernel
theorem dX4_find_8 : decode cX4_find 8 = .ok (.arraylength, 1) := by decide +kernel
theorem dX4_find_9 : decode cX4_find 9 = .ok (.if_icmp .ge 38, 3) := by decide +kernel
theorem dX4_find_12 : decode cX4_find 12 = .ok (.iload_n 2, 1) := by decide +kernel
theorem dX4_find_13 : decode cX4_find 13 = .ok (.ifCond .le 34, 3) := by decide +kernel
theorem dX4_find_16 : decode cX4_find 16 = .ok (.getstatic 46, 3) := by decide +kernel
theorem dX4_find_19 : decode cX4_find 19 = .ok (.iload_n 2, 1) := by decide +kernel
theorem dX4_find_20 : decode cX4_find 20 = .ok (.iconst 4, 1) := by decide +kernel
theorem dX4_find_21 : decode cX4_find 21 = .ok (.imul, 1) := by decide +kernel
theorem dX4_find_22 : decode cX4_find 22 = .ok (.iload_n 0, 1) := by decide +kernel
theorem dX4_find_23 : decode cX4_find 23 = .ok (.iadd, 1) := by decide +kernel
theorem dX4_find_24 : decode cX4_find 24 = .ok (.iaload, 1) := by decide +kernel
theorem dX4_find_25 : decode cX4_find 25 = .ok (.istore 4, 2) := by decide +kernel
theorem dX4_find_27 : decode cX4_find 27 = .ok (.iload 4, 2) := by decide +kernel
theorem dX4_find_29 : decode cX4_find 29 = .ok (.ifCond .eq 6, 3) := by decide +kernel
theorem dX4_find_32 : decode cX4_find 32 = .ok (.iload 4, 2) := by decide +kernel
theorem dX4_find_34 : decode cX4_find 34 = .ok (.ireturn, 1) := by decide +kernel
theorem dX4_find_35 : decode cX4_find 35 = .ok (.getstatic 43, 3) := by decide +kernel
theorem dX4_find_38 : decode cX4_find 38 = .ok (.iload_n 2, 1) := by decide +kernel
theorem dX4_find_39 : decode cX4_find 39 = .ok (.iaload, 1) := by decide +kernel
theorem dX4_find_40 : decode cX4_find 40 = .ok (.istore_n 2, 1) := by decide +kernel
theorem dX4_find_41 : decode cX4_find 41 = .ok (.iinc 3 1, 3) := by decide +kernel
theorem dX4_find_44 : decode cX4_find 44 = .ok (.goto (-40), 3) := by decide +kernel
theorem dX4_find_47 : decode cX4_find 47 = .ok (.getstatic 46, 3) := by decide +kernel
theorem dX4_find_50 : decode cX4_find 50 = .ok (.iconst 0, 1) := by decide +kernel
theorem dX4_find_51 : decode cX4_find 51 = .ok (.iload_n 0, 1) := by decide +kernel
theorem dX4_find_52 : decode cX4_find 52 = .ok (.iadd, 1) := by decide +kernel
theorem dX4_find_53 : decode cX4_find 53 = .ok (.iaload, 1) := by decide +kernel
theorem dX4_find_54 : decode cX4_find 54 = .ok (.ireturn, 1) := by decide +kernel
theorem dX4_call_0 : decode cX4_call 0 = .ok (.aload_n 0, 1) := by decide +kernel
theorem dX4_call_1 : decode cX4_call 1 = .ok (.getfield 19, 3) := by decide +kernel
theorem dX4_call_4 : decode cX4_call 4 = .ok (.ifCond .ne 10, 3) := by decide +kernel
theorem dX4_call_7 : decode cX4_call 7 = .ok (.iload 4, 2) := by decide +kernel
theorem dX4_call_9 : decode cX4_call 9 = .ok (.bipush 20, 2) := by decide +kernel
theorem dX4_call_11 : decode cX4_call 11 = .ok (.if_icmp .le 5, 3) := by decide +kernel
theorem dX4_call_14 : decode cX4_call 14 = .ok (.iconst 0, 1) := by decide +kernel
theorem dX4_call_15 : decode cX4_call 15 = .ok (.ireturn, 1) := by decide +kernel
theorem dX4_call_16 : decode cX4_call 16 = .ok (.iload_n 1, 1) := by decide +kernel
theorem dX4_call_17 : decode cX4_call 17 = .ok (.iload_n 2, 1) := by decide +kernel
theorem dX4_call_18 : decode cX4_call 18 = .ok (.invokestatic 49, 3) := by decide +kernel
theorem dX4_call_21 : decode cX4_call 21 = .ok (.istore 5, 2) := by decide +kernel
theorem dX4_call_23 : decode cX4_call 23 = .ok (.aload_n 0, 1) := by decide +kernel
theorem dX4_call_24 : decode cX4_call 24 = .ok (.getfield 15, 3) := by decide +kernel
theorem dX4_call_27 : decode cX4_call 27 = .ok (.bipush 30, 2) := by decide +kernel
theorem dX4_call_29 : decode cX4_call 29 = .ok (.if_icmp .ge 24, 3) := by decide +kernel
theorem dX4_call_32 : decode cX4_call 32 = .ok (.aload_n 0, 1) := by decide +kernel
theorem dX4_call_33 : decode cX4_call 33 = .ok (.getfield 9, 3) := by decide +kernel
theorem dX4_call_36 : decode cX4_call 36 = .ok (.aload_n 0, 1) := by decide +kernel
theorem dX4_call_37 : decode cX4_call 37 = .ok (.getfield 15, 3) := by decide +kernel
theorem dX4_call_40 : decode cX4_call 40 = .ok (.iload 5, 2) := by decide +kernel
theorem dX4_call_42 : decode cX4_call 42 = .ok (.iastore, 1) := by decide +kernel
theorem dX4_call_43 : decode cX4_call 43 = .ok (.aload_n 0, 1) := by decide +kernel
theorem dX4_call_44 : decode cX4_call 44 = .ok (.dup, 1) := by decide +kernel
theorem dX4_call_45 : decode cX4_call 45 = .ok (.getfield 15, 3) := by decide +kernel
theorem dX4_call_48 : decode cX4_call 48 = .ok (.iconst 1, 1) := by decide +kernel
theorem dX4_call_49 : decode cX4_call 49 = .ok (.iadd, 1) := by decide +kernel
theorem dX4_call_50 : decode cX4_call 50 = .ok (.putfield 15, 3) := by decide +kernel
theorem dX4_call_53 : decode cX4_call 53 = .ok (.aload_n 0, 1) := by decide +kernel
theorem dX4_call_54 : decode cX4_call 54 = .ok (.iload 5, 2) := by decide +kernel
theorem dX4_call_56 : decode cX4_call 56 = .ok (.iload_n 3, 1) := by decide +kernel
theorem dX4_call_57 : decode cX4_call 57 = .ok (.iload 4, 2) := by decide +kernel
theorem dX4_call_59 : decode cX4_call 59 = .ok (.iconst 1, 1) := by decide +kernel
theorem dX4_call_60 : decode cX4_call 60 = .ok (.iadd, 1) := by decide +kernel
theorem dX4_call_61 : decode cX4_call 61 = .ok (.invokevirtual 53, 3) := by decide +kernel
theorem dX4_call_64 : decode cX4_call 64 = .ok (.ireturn, 1) := by decide +kernel
theorem dX4_work_0 : decode cX4_work 0 = .ok (.getstatic 43, 3) := by decide +kernel
theorem dX4_work_3 : decode cX4_work 3 = .ok (.iload_n 1, 1) := by decide +kernel
theorem dX4_work_4 : decode cX4_work 4 = .ok (.bipush 10, 2) := by decide +kernel
theorem dX4_work_6 : decode cX4_work 6 = .ok (.idiv, 1) := by decide +kernel
theorem dX4_work_7 : decode cX4_work 7 = .ok (.iconst 1, 1) := by decide +kernel
theorem dX4_work_8 : decode cX4_work 8 = .ok (.isub, 1) := by decide +kernel
theorem dX4_work_9 : decode cX4_work 9 = .ok (.iaload, 1) := by decide +kernel
theorem dX4_work_10 : decode cX4_work 10 = .ok (.istore 4, 2) := by decide +kernel
theorem dX4_work_12 : decode cX4_work 12 = .ok (.iload_n 1, 1) := by decide +kernel
theorem dX4_work_13 : decode cX4_work 13 = .ok (.lookupswitch 273 #[(10, 115), (11, 122), (12, 136), (13, 153), (20, 159), (21, 171), (30, 193), (40, 204), (50, 216), (51, 228), (60, 243), (70, 255), (71, 258)], 115) := by decide +kernel
theorem dX4_work_128 : decode cX4_work 128 = .ok (.iload_n 2, 1) := by decide +kernel
theorem dX4_work_129 : decode cX4_work 129 = .ok (.aload_n 0, 1) := by decide +kernel
theorem dX4_work_130 : decode cX4_work 130 = .ok (.getfield 36, 3) := by decide +kernel
theorem dX4_work_133 : decode cX4_work 133 = .ok (.iadd, 1) := by decide +kernel
theorem dX4_work_134 : decode cX4_work 134 = .ok (.ireturn, 1) := by decide +kernel
theorem dX4_work_135 : decode cX4_work 135 = .ok (.aload_n 0, 1) := by decide +kernel
theorem dX4_work_136 : decode cX4_work 136 = .ok (.iconst 0, 1) := by decide +kernel
theorem dX4_work_137 : decode cX4_work 137 = .ok (.aload_n 0, 1) := by decide +kernel
theorem dX4_work_138 : decode cX4_work 138 = .ok (.getfield 28, 3) := by decide +kernel
theorem dX4_work_141 : decode cX4_work 141 = .ok (.iload_n 2, 1) := by decide +kernel
theorem dX4_work_142 : decode cX4_work 142 = .ok (.iload_n 3, 1) := by decide +kernel
theorem dX4_work_143 : decode cX4_work 143 = .ok (.invokevirtual 39, 3) := by decide +kernel
theorem dX4_work_146 : decode cX4_work 146 = .ok (.iconst 2, 1) := by decide +kernel
theorem dX4_work_147 : decode cX4_work 147 = .ok (.imul, 1) := by decide +kernel
theorem dX4_work_148 : decode cX4_work 148 = .ok (.ireturn, 1) := by decide +kernel
theorem dX4_work_149 : decode cX4_work 149 = .ok (.aload_n 0, 1) := by decide +kernel
theorem dX4_work_150 : decode cX4_work 150 = .ok (.iconst 1, 1) := by decide +kernel
theorem dX4_work_151 : decode cX4_work 151 = .ok (.aload_n 0, 1) := by decide +kernel
theorem dX4_work_152 : decode cX4_work 152 = .ok (.getfield 28, 3) := by decide +kernel
theorem dX4_work_155 : decode cX4_work 155 = .ok (.iload_n 2, 1) := by decide +kernel
theorem dX4_work_156 : decode cX4_work 156 = .ok (.iload_n 3, 1) := by decide +kernel
theorem dX4_work_157 : decode cX4_work 157 = .ok (.invokevirtual 39, 3) := by decide +kernel
theorem dX4_work_160 : decode cX4_work 160 = .ok (.aload_n 0, 1) := by decide +kernel
theorem dX4_work_161 : decode cX4_work 161 = .ok (.getfield 33, 3) := by decide +kernel
theorem dX4_work_164 : decode cX4_work 164 = .ok (.isub, 1) := by decide +kernel
theorem dX4_work_165 : decode cX4_work 165 = .ok (.ireturn, 1) := by decide +kernel
theorem dX4_work_166 : decode cX4_work 166 = .ok (.aload_n 0, 1) := by decide +kernel
theorem dX4_work_167 : decode cX4_work 167 = .ok (.iload_n 2, 1) := by decide +kernel
theorem dX4_work_168 : decode cX4_work 168 = .ok (.invokevirtual 57, 3) := by decide +kernel
theorem dX4_work_171 : decode cX4_work 171 = .ok (.ireturn, 1) := by decide +kernel
theorem dX4_work_172 : decode cX4_work 172 = .ok (.aload_n 0, 1) := by decide +kernel
theorem dX4_work_173 : decode cX4_work 173 = .ok (.iconst 0, 1) := by decide +kernel
theorem dX4_work_174 : decode cX4_work 174 = .ok (.iload 4, 2) := by decide +kernel
theorem dX4_work_176 : decode cX4_work 176 = .ok (.iload_n 2, 1) := by decide +kernel
theorem dX4_work_177 : decode cX4_work 177 = .ok (.iload_n 3, 1) := by decide +kernel
theorem dX4_work_178 : decode cX4_work 178 = .ok (.invokevirtual 39, 3) := by decide +kernel
theorem dX4_work_181 : decode cX4_work 181 = .ok (.iconst 4, 1) := by decide +kernel
theorem dX4_work_182 : decode cX4_work 182 = .ok (.isub, 1) := by decide +kernel
theorem dX4_work_183 : decode cX4_work 183 = .ok (.ireturn, 1) := by decide +kernel
theorem dX4_work_184 : decode cX4_work 184 = .ok (.aload_n 0, 1) := by decide +kernel
theorem dX4_work_185 : decode cX4_work 185 = .ok (.iconst 3, 1) := by decide +kernel
theorem dX4_work_186 : decode cX4_work 186 = .ok (.iload 4, 2) := by decide +kernel
theorem dX4_work_188 : decode cX4_work 188 = .ok (.iload_n 2, 1) := by decide +kernel
theorem dX4_work_189 : decode cX4_work 189 = .ok (.iload_n 3, 1) := by decide +kernel
theorem dX4_work_190 : decode cX4_work 190 = .ok (.invokevirtual 39, 3) := by decide +kernel
theorem dX4_work_193 : decode cX4_work 193 = .ok (.aload_n 0, 1) := by decide +kernel
theorem dX4_work_194 : decode cX4_work 194 = .ok (.iconst 1, 1) := by decide +kernel
theorem dX4_work_195 : decode cX4_work 195 = .ok (.aload_n 0, 1) := by decide +kernel
theorem dX4_work_196 : decode cX4_work 196 = .ok (.getfield 28, 3) := by decide +kernel
theorem dX4_work_199 : decode cX4_work 199 = .ok (.iconst 1, 1) := by decide +kernel
theorem dX4_work_200 : decode cX4_work 200 = .ok (.iload_n 3, 1) := by decide +kernel
theorem dX4_work_201 : decode cX4_work 201 = .ok (.invokevirtual 39, 3) := by decide +kernel
theorem dX4_work_204 : decode cX4_work 204 = .ok (.iadd, 1) := by decide +kernel
theorem dX4_work_205 : decode cX4_work 205 = .ok (.ireturn, 1) := by decide +kernel
theorem dX4_work_206 : decode cX4_work 206 = .ok (.aload_n 0, 1) := by decide +kernel
theorem dX4_work_207 : decode cX4_work 207 = .ok (.iconst 1, 1) := by decide +kernel
theorem dX4_work_208 : decode cX4_work 208 = .ok (.iload 4, 2) := by decide +kernel
theorem dX4_work_210 : decode cX4_work 210 = .ok (.iload_n 2, 1) := by decide +kernel
theorem dX4_work_211 : decode cX4_work 211 = .ok (.iload_n 3, 1) := by decide +kernel
theorem dX4_work_212 : decode cX4_work 212 = .ok (.invokevirtual 39, 3) := by decide +kernel
theorem dX4_work_215 : decode cX4_work 215 = .ok (.ineg, 1) := by decide +kernel
theorem dX4_work_216 : decode cX4_work 216 = .ok (.ireturn, 1) := by decide +kernel
theorem dX4_work_217 : decode cX4_work 217 = .ok (.aload_n 0, 1) := by decide +kernel
theorem dX4_work_218 : decode cX4_work 218 = .ok (.iconst 2, 1) := by decide +kernel
theorem dX4_work_219 : decode cX4_work 219 = .ok (.iload 4, 2) := by decide +kernel
theorem dX4_work_221 : decode cX4_work 221 = .ok (.iload_n 2, 1) := by decide +kernel
theorem dX4_work_222 : decode cX4_work 222 = .ok (.iconst 2, 1) := by decide +kernel
theorem dX4_work_223 : decode cX4_work 223 = .ok (.idiv, 1) := by decide +kernel
theorem dX4_work_224 : decode cX4_work 224 = .ok (.iload_n 3, 1) := by decide +kernel
theorem dX4_work_225 : decode cX4_work 225 = .ok (.invokevirtual 39, 3) := by decide +kernel
theorem dX4_work_228 : decode cX4_work 228 = .ok (.ireturn, 1) := by decide +kernel
theorem dX4_work_229 : decode cX4_work 229 = .ok (.aload_n 0, 1) := by decide +kernel
theorem dX4_work_230 : decode cX4_work 230 = .ok (.iconst 0, 1) := by decide +kernel
theorem dX4_work_231 : decode cX4_work 231 = .ok (.iload 4, 2) := by decide +kernel
theorem dX4_work_233 : decode cX4_work 233 = .ok (.iload_n 2, 1) := by decide +kernel
theorem dX4_work_234 : decode cX4_work 234 = .ok (.iload_n 3, 1) := by decide +kernel
theorem dX4_work_235 : decode cX4_work 235 = .ok (.invokevirtual 39, 3) := by decide +kernel
theorem dX4_work_238 : decode cX4_work 238 = .ok (.iconst 3, 1) := by decide +kernel
theorem dX4_work_239 : decode cX4_work 239 = .ok (.imul, 1) := by decide +kernel
theorem dX4_work_240 : decode cX4_work 240 = .ok (.ireturn, 1) := by decide +kernel
theorem dX4_work_241 : decode cX4_work 241 = .ok (.aload_n 0, 1) := by decide +kernel
theorem dX4_work_242 : decode cX4_work 242 = .ok (.iconst 2, 1) := by decide +kernel
theorem dX4_work_243 : decode cX4_work 243 = .ok (.iload 4, 2) := by decide +kernel
theorem dX4_work_245 : decode cX4_work 245 = .ok (.iload_n 2, 1) := by decide +kernel
theorem dX4_work_246 : decode cX4_work 246 = .ok (.iload_n 3, 1) := by decide +kernel
theorem dX4_work_247 : decode cX4_work 247 = .ok (.invokevirtual 39, 3) := by decide +kernel
theorem dX4_work_250 : decode cX4_work 250 = .ok (.aload_n 0, 1) := by decide +kernel
theorem dX4_work_251 : decode cX4_work 251 = .ok (.getfield 36, 3) := by decide +kernel
theorem dX4_work_254 : decode cX4_work 254 = .ok (.ixor, 1) := by decide +kernel
theorem dX4_work_255 : decode cX4_work 255 = .ok (.ireturn, 1) := by decide +kernel
theorem dX4_work_256 : decode cX4_work 256 = .ok (.aload_n 0, 1) := by decide +kernel
theorem dX4_work_257 : decode cX4_work 257 = .ok (.iconst 1, 1) := by decide +kernel
theorem dX4_work_258 : decode cX4_work 258 = .ok (.iload 4, 2) := by decide +kernel
theorem dX4_work_260 : decode cX4_work 260 = .ok (.iload_n 2, 1) := by decide +kernel
theorem dX4_work_261 : decode cX4_work 261 = .ok (.iconst 1, 1) := by decide +kernel
theorem dX4_work_262 : decode cX4_work 262 = .ok (.iadd, 1) := by decide +kernel
theorem dX4_work_263 : decode cX4_work 263 = .ok (.iload_n 3, 1) := by decide +kernel
theorem dX4_work_264 : decode cX4_work 264 = .ok (.invokevirtual 39, 3) := by decide +kernel
theorem dX4_work_267 : decode cX4_work 267 = .ok (.ireturn, 1) := by decide +kernel
theorem dX4_work_268 : decode cX4_work 268 = .ok (.bipush 9, 2) := by decide +kernel
theorem dX4_work_270 : decode cX4_work 270 = .ok (.ireturn, 1) := by decide +kernel
theorem dX4_work_271 : decode cX4_work 271 = .ok (.aload_n 0, 1) := by decide +kernel
theorem dX4_work_272 : decode cX4_work 272 = .ok (.iconst 1, 1) := by decide +kernel
theorem dX4_work_273 : decode cX4_work 273 = .ok (.iload 4, 2) := by decide +kernel
theorem dX4_work_275 : decode cX4_work 275 = .ok (.iload_n 2, 1) := by decide +kernel
theorem dX4_work_276 : decode cX4_work 276 = .ok (.iload_n 3, 1) := by decide +kernel
theorem dX4_work_277 : decode cX4_work 277 = .ok (.invokevirtual 39, 3) := by decide +kernel
theorem dX4_work_280 : decode cX4_work 280 = .ok (.aload_n 0, 1) := by decide +kernel
theorem dX4_work_281 : decode cX4_work 281 = .ok (.getfield 33, 3) := by decide +kernel
theorem dX4_work_284 : decode cX4_work 284 = .ok (.iadd, 1) := by decide +kernel
theorem dX4_work_285 : decode cX4_work 285 = .ok (.ireturn, 1) := by decide +kernel
theorem dX4_work_286 : decode cX4_work 286 = .ok (.iconst 0, 1) := by decide +kernel
theorem dX4_work_287 : decode cX4_work 287 = .ok (.ireturn, 1) := by decide +kernel
theorem dX4_part_0 : decode cX4_part 0 = .ok (.aload_n 0, 1) := by decide +kernel
theorem dX4_part_1 : decode cX4_part 1 = .ok (.getfield 33, 3) := by decide +kernel
theorem dX4_part_4 : decode cX4_part 4 = .ok (.aload_n 0, 1) := by decide +kernel
theorem dX4_part_5 : decode cX4_part 5 = .ok (.getfield 36, 3) := by decide +kernel
theorem dX4_part_8 : decode cX4_part 8 = .ok (.if_icmp .ne 10, 3) := by decide +kernel
theorem dX4_part_11 : decode cX4_part 11 = .ok (.aload_n 0, 1) := by decide +kernel
theorem dX4_part_12 : decode cX4_part 12 = .ok (.iconst 1, 1) := by decide +kernel
theorem dX4_part_13 : decode cX4_part 13 = .ok (.putfield 19, 3) := by decide +kernel
theorem dX4_part_16 : decode cX4_part 16 = .ok (.iconst 0, 1) := by decide +kernel
theorem dX4_part_17 : decode cX4_part 17 = .ok (.ireturn, 1) := by decide +kernel
theorem dX4_part_18 : decode cX4_part 18 = .ok (.iload_n 1, 1) := by decide +kernel
theorem dX4_part_19 : decode cX4_part 19 = .ok (.aload_n 0, 1) := by decide +kernel
theorem dX4_part_20 : decode cX4_part 20 = .ok (.getfield 33, 3) := by decide +kernel
theorem dX4_part_23 : decode cX4_part 23 = .ok (.aload_n 0, 1) := by decide +kernel
theorem dX4_part_24 : decode cX4_part 24 = .ok (.getfield 36, 3) := by decide +kernel
theorem dX4_part_27 : decode cX4_part 27 = .ok (.isub, 1) := by decide +kernel
theorem dX4_part_28 : decode cX4_part 28 = .ok (.idiv, 1) := by decide +kernel
theorem dX4_part_29 : decode cX4_part 29 = .ok (.ireturn, 1) := by decide +kernel
theorem dX5_init_0 : decode cX5_init 0 = .ok (.aload_n 0, 1) := by decide +kernel
theorem dX5_init_1 : decode cX5_init 1 = .ok (.invokespecial 3, 3) := by decide +kernel
theorem dX5_init_4 : decode cX5_init 4 = .ok (.aload_n 0, 1) := by decide +kernel
theorem dX5_init_5 : decode cX5_init 5 = .ok (.iconst 4, 1) := by decide +kernel
theorem dX5_init_6 : decode cX5_init 6 = .ok (.newarray .int, 2) := by decide +kernel
theorem dX5_init_8 : decode cX5_init 8 = .ok (.putfield 9, 3) := by decide +kernel
theorem dX5_init_11 : decode cX5_init 11 = .ok (.aload_n 0, 1) := by decide +kernel
theorem dX5_init_12 : decode cX5_init 12 = .ok (.iconst 4, 1) := by decide +kernel
theorem dX5_init_13 : decode cX5_init 13 = .ok (.newarray .int, 2) := by decide +kernel
theorem dX5_init_15 : decode cX5_init 15 = .ok (.putfield 15, 3) := by decide +kernel
theorem dX5_init_18 : decode cX5_init 18 = .ok (.aload_n 0, 1) := by decide +kernel
theorem dX5_init_19 : decode cX5_init 19 = .ok (.iconst 4, 1) := by decide +kernel
theorem dX5_init_20 : decode cX5_init 20 = .ok (.newarray .int, 2) := by decide +kernel
theorem dX5_init_22 : decode cX5_init 22 = .ok (.putfield 18, 3) := by decide +kernel
theorem dX5_init_25 : decode cX5_init 25 = .ok (.aload_n 0, 1) := by decide +kernel
theorem dX5_init_26 : decode cX5_init 26 = .ok (.bipush 8, 2) := by decide +kernel
theorem dX5_init_28 : decode cX5_init 28 = .ok (.newarray .int, 2) := by decide +kernel
theorem dX5_init_30 : decode cX5_init 30 = .ok (.putfield 21, 3) := by decide +kernel
theorem dX5_init_33 : decode cX5_init 33 = .ok (.aload_n 0, 1) := by decide +kernel
theorem dX5_init_34 : decode cX5_init 34 = .ok (.sipush 480, 3) := by decide +kernel
theorem dX5_init_37 : decode cX5_init 37 = .ok (.newarray .int, 2) := by decide +kernel
theorem dX5_init_39 : decode cX5_init 39 = .ok (.putfield 24, 3) := by decide +kernel
theorem dX5_init_42 : decode cX5_init 42 = .ok (.aload_n 0, 1) := by decide +kernel
theorem dX5_init_43 : decode cX5_init 43 = .ok (.aload_n 1, 1) := by decide +kernel
theorem dX5_init_44 : decode cX5_init 44 = .ok (.putfield 27, 3) := by decide +kernel
theorem dX5_init_47 : decode cX5_init 47 = .ok (.return_, 1) := by decide +kernel
theorem dX5_roomsBehind_0 : decode cX5_roomsBehind 0 = .ok (.aload_n 0, 1) := by decide +kernel
theorem dX5_roomsBehind_1 : decode cX5_roomsBehind 1 = .ok (.iload_n 1, 1) := by decide +kernel
theorem dX5_roomsBehind_2 : decode cX5_roomsBehind 2 = .ok (.invokevirtual 31, 3) := by decide +kernel
theorem dX5_roomsBehind_5 : decode cX5_roomsBehind 5 = .ok (.iconst 1, 1) := by decide +kernel
theorem dX5_roomsBehind_6 : decode cX5_roomsBehind 6 = .ok (.aload_n 0, 1) := by decide +kernel
theorem dX5_roomsBehind_7 : decode cX5_roomsBehind 7 = .ok (.getfield 27, 3) := by decide +kernel
theorem dX5_roomsBehind_10 : decode cX5_roomsBehind 10 = .ok (.getfield 35, 3) := by decide +kernel
theorem dX5_roomsBehind_13 : decode cX5_roomsBehind 13 = .ok (.iload_n 1, 1) := by decide +kernel
theorem dX5_roomsBehind_14 : decode cX5_roomsBehind 14 = .ok (.iaload, 1) := by decide +kernel
theorem dX5_roomsBehind_15 : decode cX5_roomsBehind 15 = .ok (.ishl, 1) := by decide +kernel
theorem dX5_roomsBehind_16 : decode cX5_roomsBehind 16 = .ok (.istore_n 3, 1) := by decide +kernel
theorem dX5_roomsBehind_17 : decode cX5_roomsBehind 17 = .ok (.aload_n 0, 1) := by decide +kernel
theorem dX5_roomsBehind_18 : decode cX5_roomsBehind 18 = .ok (.iload_n 3, 1) := by decide +kernel
theorem dX5_roomsBehind_19 : decode cX5_roomsBehind 19 = .ok (.invokevirtual 40, 3) := by decide +kernel
theorem dX5_roomsBehind_22 : decode cX5_roomsBehind 22 = .ok (.istore 4, 2) := by decide +kernel
theorem dX5_roomsBehind_24 : decode cX5_roomsBehind 24 = .ok (.iconst 0, 1) := by decide +kernel
theorem dX5_roomsBehind_25 : decode cX5_roomsBehind 25 = .ok (.istore 5, 2) := by decide +kernel
theorem dX5_roomsBehind_27 : decode cX5_roomsBehind 27 = .ok (.iload 5, 2) := by decide +kernel
theorem dX5_roomsBehind_29 : decode cX5_roomsBehind 29 = .ok (.iload_n 2, 1) := by decide +kernel
theorem dX5_roomsBehind_30 : decode cX5_roomsBehind 30 = .ok (.if_icmp .ge 36, 3) := by decide +kernel
theorem dX5_roomsBehind_33 : decode cX5_roomsBehind 33 = .ok (.iload_n 3, 1) := by decide +kernel
theorem dX5_roomsBehind_34 : decode cX5_roomsBehind 34 = .ok (.iload 4, 2) := by decide +kernel
theorem dX5_roomsBehind_36 : decode cX5_roomsBehind 36 = .ok (.if_icmp .eq 30, 3) := by decide +kernel
theorem dX5_roomsBehind_39 : decode cX5_roomsBehind 39 = .ok (.aload_n 0, 1) := by decide +kernel
theorem dX5_roomsBehind_40 : decode cX5_roomsBehind 40 = .ok (.iload_n 1, 1) := by decide +kernel
theorem dX5_roomsBehind_41 : decode cX5_roomsBehind 41 = .ok (.aload_n 0, 1) := by decide +kernel
theorem dX5_roomsBehind_42 : decode cX5_roomsBehind 42 = .ok (.getfield 27, 3) := by decide +kernel
theorem dX5_roomsBehind_45 : decode cX5_roomsBehind 45 = .ok (.getfield 44, 3) := by decide +kernel
theorem dX5_roomsBehind_48 : decode cX5_roomsBehind 48 = .ok (.iload 5, 2) := by decide +kernel
theorem dX5_roomsBehind_50 : decode cX5_roomsBehind 50 = .ok (.iadd, 1) := by decide +kernel
theorem dX5_roomsBehind_51 : decode cX5_roomsBehind 51 = .ok (.invokevirtual 48, 3) := by decide +kernel
theorem dX5_roomsBehind_54 : decode cX5_roomsBehind 54 = .ok (.aload_n 0, 1) := by decide +kernel
theorem dX5_roomsBehind_55 : decode cX5_roomsBehind 55 = .ok (.iload_n 3, 1) := by decide +kernel
theorem dX5_roomsBehind_56 : decode cX5_roomsBehind 56 = .ok (.invokevirtual 52, 3) := by decide +kernel
theorem dX5_roomsBehind_59 : decode cX5_roomsBehind 59 = .ok (.istore_n 3, 1) := by decide +kernel
theorem dX5_roomsBehind_60 : decode cX5_roomsBehind 60 = .ok (.iinc 5 1, 3) := by decide +kernel
theorem dX5_roomsBehind_63 : decode cX5_roomsBehind 63 = .ok (.goto (-36), 3) := by decide +kernel
theorem dX5_roomsBehind_66 : decode cX5_roomsBehind 66 = .ok (.iload_n 3, 1) := by decide +kernel
theorem dX5_roomsBehind_67 : decode cX5_roomsBehind 67 = .ok (.ireturn, 1) := by decide +kernel
theorem dX5_firstIn_0 : decode cX5_firstIn 0 = .ok (.aload_n 0, 1) := by decide +kernel
theorem dX5_firstIn_1 : decode cX5_firstIn 1 = .ok (.iload_n 1, 1) := by decide +kernel
theorem dX5_firstIn_2 : decode cX5_firstIn 2 = .ok (.invokevirtual 31, 3) := by decide +kernel
theorem dX5_firstIn_5 : decode cX5_firstIn 5 = .ok (.iconst 1, 1) := by decide +kernel
theorem dX5_firstIn_6 : decode cX5_firstIn 6 = .ok (.aload_n 0, 1) := by decide +kernel
theorem dX5_firstIn_7 : decode cX5_firstIn 7 = .ok (.getfield 27, 3) := by decide +kernel
theorem dX5_firstIn_10 : decode cX5_firstIn 10 = .ok (.getfield 35, 3) := by decide +kernel
theorem dX5_firstIn_13 : decode cX5_firstIn 13 = .ok (.iload_n 1, 1) := by decide +kernel
theorem dX5_firstIn_14 : decode cX5_firstIn 14 = .ok (.iaload, 1) := by decide +kernel
theorem dX5_firstIn_15 : decode cX5_firstIn 15 = .ok (.ishl, 1) := by decide +kernel
theorem dX5_firstIn_16 : decode cX5_firstIn 16 = .ok (.istore_n 3, 1) := by decide +kernel
theorem dX5_firstIn_17 : decode cX5_firstIn 17 = .ok (.aload_n 0, 1) := by decide +kernel
theorem dX5_firstIn_18 : decode cX5_firstIn 18 = .ok (.iload_n 3, 1) := by decide +kernel
theorem dX5_firstIn_19 : decode cX5_firstIn 19 = .ok (.invokevirtual 40, 3) := by decide +kernel
theorem dX5_firstIn_22 : decode cX5_firstIn 22 = .ok (.iload_n 2, 1) := by decide +kernel
theorem dX5_firstIn_23 : decode cX5_firstIn 23 = .ok (.invokestatic 55, 3) := by decide +kernel
theorem dX5_firstIn_26 : decode cX5_firstIn 26 = .ok (.ifCond .ne 5, 3) := by decide +kernel
theorem dX5_firstIn_29 : decode cX5_firstIn 29 = .ok (.iconst (-1), 1) := by decide +kernel
theorem dX5_firstIn_30 : decode cX5_firstIn 30 = .ok (.ireturn, 1) := by decide +kernel
theorem dX5_firstIn_31 : decode cX5_firstIn 31 = .ok (.iconst 0, 1) := by decide +kernel
theorem dX5_firstIn_32 : decode cX5_firstIn 32 = .ok (.istore 4, 2) := by decide +kernel
theorem dX5_firstIn_34 : decode cX5_firstIn 34 = .ok (.iload 4, 2) := by decide +kernel
theorem dX5_firstIn_36 : decode cX5_firstIn 36 = .ok (.sipush 720, 3) := by decide +kernel
theorem dX5_firstIn_39 : decode cX5_firstIn 39 = .ok (.if_icmp .gt 41, 3) := by decide +kernel
theorem dX5_firstIn_42 : decode cX5_firstIn 42 = .ok (.iload_n 3, 1) := by decide +kernel
theorem dX5_firstIn_43 : decode cX5_firstIn 43 = .ok (.iload_n 2, 1) := by decide +kernel
theorem dX5_firstIn_44 : decode cX5_firstIn 44 = .ok (.invokestatic 55, 3) := by decide +kernel
theorem dX5_firstIn_47 : decode cX5_firstIn 47 = .ok (.ifCond .eq 6, 3) := by decide +kernel
theorem dX5_firstIn_50 : decode cX5_firstIn 50 = .ok (.iload 4, 2) := by decide +kernel
theorem dX5_firstIn_52 : decode cX5_firstIn 52 = .ok (.ireturn, 1) := by decide +kernel
theorem dX5_firstIn_53 : decode cX5_firstIn 53 = .ok (.aload_n 0, 1) := by decide +kernel
theorem dX5_firstIn_54 : decode cX5_firstIn 54 = .ok (.iload_n 1, 1) := by decide +kernel
theorem dX5_firstIn_55 : decode cX5_firstIn 55 = .ok (.aload_n 0, 1) := by decide +kernel
theorem dX5_firstIn_56 : decode cX5_firstIn 56 = .ok (.getfield 27, 3) := by decide +kernel
theorem dX5_firstIn_59 : decode cX5_firstIn 59 = .ok (.getfield 44, 3) := by decide +kernel
theorem dX5_firstIn_62 : decode cX5_firstIn 62 = .ok (.iload 4, 2) := by decide +kernel
theorem dX5_firstIn_64 : decode cX5_firstIn 64 = .ok (.iadd, 1) := by decide +kernel
theorem dX5_firstIn_65 : decode cX5_firstIn 65 = .ok (.invokevirtual 48, 3) := by decide +kernel
theorem dX5_firstIn_68 : decode cX5_firstIn 68 = .ok (.aload_n 0, 1) := by decide +kernel
theorem dX5_firstIn_69 : decode cX5_firstIn 69 = .ok (.iload_n 3, 1) := by decide +kernel
theorem dX5_firstIn_70 : decode cX5_firstIn 70 = .ok (.invokevirtual 52, 3) := by decide +kernel
theorem dX5_firstIn_73 : decode cX5_firstIn 73 = .ok (.istore_n 3, 1) := by decide +kernel
theorem dX5_firstIn_74 : decode cX5_firstIn 74 = .ok (.iinc 4 1, 3) := by decide +kernel
theorem dX5_firstIn_77 : decode cX5_firstIn 77 = .ok (.goto (-43), 3) := by decide +kernel
theorem dX5_firstIn_80 : decode cX5_firstIn 80 = .ok (.iconst (-1), 1) := by decide +kernel
theorem dX5_firstIn_81 : decode cX5_firstIn 81 = .ok (.ireturn, 1) := by decide +kernel
theorem dX5_fewestShut_0 : decode cX5_fewestShut 0 = .ok (.aload_n 0, 1) := by decide +kernel
theorem dX5_fewestShut_1 : decode cX5_fewestShut 1 = .ok (.iload_n 1, 1) := by decide +kernel
theorem dX5_fewestShut_2 : decode cX5_fewestShut 2 = .ok (.invokevirtual 31, 3) := by decide +kernel
theorem dX5_fewestShut_5 : decode cX5_fewestShut 5 = .ok (.iconst 0, 1) := by decide +kernel
theorem dX5_fewestShut_6 : decode cX5_fewestShut 6 = .ok (.istore 4, 2) := by decide +kernel
theorem dX5_fewestShut_8 : decode cX5_fewestShut 8 = .ok (.iload 4, 2) := by decide +kernel
theorem dX5_fewestShut_10 : decode cX5_fewestShut 10 = .ok (.iload_n 3, 1) := by decide +kernel
theorem dX5_fewestShut_11 : decode cX5_fewestShut 11 = .ok (.if_icmp .ge 64, 3) := by decide +kernel
theorem dX5_fewestShut_14 : decode cX5_fewestShut 14 = .ok (.aload_n 0, 1) := by decide +kernel
theorem dX5_fewestShut_15 : decode cX5_fewestShut 15 = .ok (.iload_n 1, 1) := by decide +kernel
theorem dX5_fewestShut_16 : decode cX5_fewestShut 16 = .ok (.aload_n 0, 1) := by decide +kernel
theorem dX5_fewestShut_17 : decode cX5_fewestShut 17 = .ok (.getfield 27, 3) := by decide +kernel
theorem dX5_fewestShut_20 : decode cX5_fewestShut 20 = .ok (.getfield 44, 3) := by decide +kernel
theorem dX5_fewestShut_23 : decode cX5_fewestShut 23 = .ok (.iload 4, 2) := by decide +kernel
theorem dX5_fewestShut_25 : decode cX5_fewestShut 25 = .ok (.iadd, 1) := by decide +kernel
theorem dX5_fewestShut_26 : decode cX5_fewestShut 26 = .ok (.invokevirtual 48, 3) := by decide +kernel
theorem dX5_fewestShut_29 : decode cX5_fewestShut 29 = .ok (.iconst 0, 1) := by decide +kernel
theorem dX5_fewestShut_30 : decode cX5_fewestShut 30 = .ok (.istore 5, 2) := by decide +kernel
theorem dX5_fewestShut_32 : decode cX5_fewestShut 32 = .ok (.iload 5, 2) := by decide +kernel
theorem dX5_fewestShut_34 : decode cX5_fewestShut 34 = .ok (.aload_n 0, 1) := by decide +kernel
theorem dX5_fewestShut_35 : decode cX5_fewestShut 35 = .ok (.getfield 27, 3) := by decide +kernel
theorem dX5_fewestShut_38 : decode cX5_fewestShut 38 = .ok (.getfield 59, 3) := by decide +kernel
theorem dX5_fewestShut_41 : decode cX5_fewestShut 41 = .ok (.if_icmp .ge 28, 3) := by decide +kernel
theorem dX5_fewestShut_44 : decode cX5_fewestShut 44 = .ok (.aload_n 0, 1) := by decide +kernel
theorem dX5_fewestShut_45 : decode cX5_fewestShut 45 = .ok (.getfield 24, 3) := by decide +kernel
theorem dX5_fewestShut_48 : decode cX5_fewestShut 48 = .ok (.iload 4, 2) := by decide +kernel
theorem dX5_fewestShut_50 : decode cX5_fewestShut 50 = .ok (.bipush 8, 2) := by decide +kernel
theorem dX5_fewestShut_52 : decode cX5_fewestShut 52 = .ok (.imul, 1) := by decide +kernel
theorem dX5_fewestShut_53 : decode cX5_fewestShut 53 = .ok (.iload 5, 2) := by decide +kernel
theorem dX5_fewestShut_55 : decode cX5_fewestShut 55 = .ok (.iadd, 1) := by decide +kernel
theorem dX5_fewestShut_56 : decode cX5_fewestShut 56 = .ok (.aload_n 0, 1) := by decide +kernel
theorem dX5_fewestShut_57 : decode cX5_fewestShut 57 = .ok (.iload 5, 2) := by decide +kernel
theorem dX5_fewestShut_59 : decode cX5_fewestShut 59 = .ok (.invokevirtual 62, 3) := by decide +kernel
theorem dX5_fewestShut_62 : decode cX5_fewestShut 62 = .ok (.iastore, 1) := by decide +kernel
theorem dX5_fewestShut_63 : decode cX5_fewestShut 63 = .ok (.iinc 5 1, 3) := by decide +kernel
theorem dX5_fewestShut_66 : decode cX5_fewestShut 66 = .ok (.goto (-34), 3) := by decide +kernel
theorem dX5_fewestShut_69 : decode cX5_fewestShut 69 = .ok (.iinc 4 1, 3) := by decide +kernel
theorem dX5_fewestShut_72 : decode cX5_fewestShut 72 = .ok (.goto (-64), 3) := by decide +kernel
theorem dX5_fewestShut_75 : decode cX5_fewestShut 75 = .ok (.iconst 1, 1) := by decide +kernel
theorem dX5_fewestShut_76 : decode cX5_fewestShut 76 = .ok (.aload_n 0, 1) := by decide +kernel
theorem dX5_fewestShut_77 : decode cX5_fewestShut 77 = .ok (.getfield 27, 3) := by decide +kernel
theorem dX5_fewestShut_80 : decode cX5_fewestShut 80 = .ok (.getfield 35, 3) := by decide +kernel
theorem dX5_fewestShut_83 : decode cX5_fewestShut 83 = .ok (.iload_n 1, 1) := by decide +kernel
theorem dX5_fewestShut_84 : decode cX5_fewestShut 84 = .ok (.iaload, 1) := by decide +kernel
theorem dX5_fewestShut_85 : decode cX5_fewestShut 85 = .ok (.ishl, 1) := by decide +kernel
theorem dX5_fewestShut_86 : decode cX5_fewestShut 86 = .ok (.istore 4, 2) := by decide +kernel
theorem dX5_fewestShut_88 : decode cX5_fewestShut 88 = .ok (.iconst 1, 1) := by decide +kernel
theorem dX5_fewestShut_89 : decode cX5_fewestShut 89 = .ok (.iload_n 2, 1) := by decide +kernel
theorem dX5_fewestShut_90 : decode cX5_fewestShut 90 = .ok (.ishl, 1) := by decide +kernel
theorem dX5_fewestShut_91 : decode cX5_fewestShut 91 = .ok (.istore 5, 2) := by decide +kernel
theorem dX5_fewestShut_93 : decode cX5_fewestShut 93 = .ok (.iconst (-1), 1) := by decide +kernel
theorem dX5_fewestShut_94 : decode cX5_fewestShut 94 = .ok (.istore 6, 2) := by decide +kernel
theorem dX5_fewestShut_96 : decode cX5_fewestShut 96 = .ok (.bipush 9, 2) := by decide +kernel
theorem dX5_fewestShut_98 : decode cX5_fewestShut 98 = .ok (.istore 7, 2) := by decide +kernel
theorem dX5_fewestShut_100 : decode cX5_fewestShut 100 = .ok (.iconst 0, 1) := by decide +kernel
theorem dX5_fewestShut_101 : decode cX5_fewestShut 101 = .ok (.istore 8, 2) := by decide +kernel
theorem dX5_fewestShut_103 : decode cX5_fewestShut 103 = .ok (.iload 8, 2) := by decide +kernel
theorem dX5_fewestShut_105 : decode cX5_fewestShut 105 = .ok (.iconst 1, 1) := by decide +kernel
theorem dX5_fewestShut_106 : decode cX5_fewestShut 106 = .ok (.aload_n 0, 1) := by decide +kernel
theorem dX5_fewestShut_107 : decode cX5_fewestShut 107 = .ok (.getfield 27, 3) := by decide +kernel
theorem dX5_fewestShut_110 : decode cX5_fewestShut 110 = .ok (.getfield 59, 3) := by decide +kernel
theorem dX5_fewestShut_113 : decode cX5_fewestShut 113 = .ok (.ishl, 1) := by decide +kernel
theorem dX5_fewestShut_114 : decode cX5_fewestShut 114 = .ok (.if_icmp .ge 56, 3) := by decide +kernel
theorem dX5_fewestShut_117 : decode cX5_fewestShut 117 = .ok (.iload 8, 2) := by decide +kernel
theorem dX5_fewestShut_119 : decode cX5_fewestShut 119 = .ok (.invokestatic 65, 3) := by decide +kernel
theorem dX5_fewestShut_122 : decode cX5_fewestShut 122 = .ok (.istore 9, 2) := by decide +kernel
theorem dX5_fewestShut_124 : decode cX5_fewestShut 124 = .ok (.iload 8, 2) := by decide +kernel
theorem dX5_fewestShut_126 : decode cX5_fewestShut 126 = .ok (.iload 4, 2) := by decide +kernel
theorem dX5_fewestShut_128 : decode cX5_fewestShut 128 = .ok (.iload 5, 2) := by decide +kernel
theorem dX5_fewestShut_130 : decode cX5_fewestShut 130 = .ok (.ior, 1) := by decide +kernel
theorem dX5_fewestShut_131 : decode cX5_fewestShut 131 = .ok (.iand, 1) := by decide +kernel
theorem dX5_fewestShut_132 : decode cX5_fewestShut 132 = .ok (.ifCond .ne 32, 3) := by decide +kernel
theorem dX5_fewestShut_135 : decode cX5_fewestShut 135 = .ok (.iload 9, 2) := by decide +kernel
theorem dX5_fewestShut_137 : decode cX5_fewestShut 137 = .ok (.iload 7, 2) := by decide +kernel
theorem dX5_fewestShut_139 : decode cX5_fewestShut 139 = .ok (.if_icmp .ge 25, 3) := by decide +kernel
theorem dX5_fewestShut_142 : decode cX5_fewestShut 142 = .ok (.aload_n 0, 1) := by decide +kernel
theorem dX5_fewestShut_143 : decode cX5_fewestShut 143 = .ok (.iload 8, 2) := by decide +kernel
theorem dX5_fewestShut_145 : decode cX5_fewestShut 145 = .ok (.iload 4, 2) := by decide +kernel
theorem dX5_fewestShut_147 : decode cX5_fewestShut 147 = .ok (.iload 5, 2) := by decide +kernel
theorem dX5_fewestShut_149 : decode cX5_fewestShut 149 = .ok (.iload_n 3, 1) := by decide +kernel
theorem dX5_fewestShut_150 : decode cX5_fewestShut 150 = .ok (.invokevirtual 70, 3) := by decide +kernel
theorem dX5_fewestShut_153 : decode cX5_fewestShut 153 = .ok (.ifCond .eq 11, 3) := by decide +kernel
theorem dX5_fewestShut_156 : decode cX5_fewestShut 156 = .ok (.iload 8, 2) := by decide +kernel
theorem dX5_fewestShut_158 : decode cX5_fewestShut 158 = .ok (.istore 6, 2) := by decide +kernel
theorem dX5_fewestShut_160 : decode cX5_fewestShut 160 = .ok (.iload 9, 2) := by decide +kernel
theorem dX5_fewestShut_162 : decode cX5_fewestShut 162 = .ok (.istore 7, 2) := by decide +kernel
theorem dX5_fewestShut_164 : decode cX5_fewestShut 164 = .ok (.iinc 8 1, 3) := by decide +kernel
theorem dX5_fewestShut_167 : decode cX5_fewestShut 167 = .ok (.goto (-64), 3) := by decide +kernel
theorem dX5_fewestShut_170 : decode cX5_fewestShut 170 = .ok (.iload 6, 2) := by decide +kernel
theorem dX5_fewestShut_172 : decode cX5_fewestShut 172 = .ok (.ireturn, 1) := by decide +kernel
theorem dX5_keepsOut_0 : decode cX5_keepsOut 0 = .ok (.iload_n 2, 1) := by decide +kernel
theorem dX5_keepsOut_1 : decode cX5_keepsOut 1 = .ok (.istore 5, 2) := by decide +kernel
theorem dX5_keepsOut_3 : decode cX5_keepsOut 3 = .ok (.iconst 0, 1) := by decide +kernel
theorem dX5_keepsOut_4 : decode cX5_keepsOut 4 = .ok (.istore 6, 2) := by decide +kernel
theorem dX5_keepsOut_6 : decode cX5_keepsOut 6 = .ok (.iload 6, 2) := by decide +kernel
theorem dX5_keepsOut_8 : decode cX5_keepsOut 8 = .ok (.iload 4, 2) := by decide +kernel
theorem dX5_keepsOut_10 : decode cX5_keepsOut 10 = .ok (.if_icmp .ge 77, 3) := by decide +kernel
theorem dX5_keepsOut_13 : decode cX5_keepsOut 13 = .ok (.iload 5, 2) := by decide +kernel
theorem dX5_keepsOut_15 : decode cX5_keepsOut 15 = .ok (.iload_n 3, 1) := by decide +kernel
theorem dX5_keepsOut_16 : decode cX5_keepsOut 16 = .ok (.iand, 1) := by decide +kernel
theorem dX5_keepsOut_17 : decode cX5_keepsOut 17 = .ok (.ifCond .ne 70, 3) := by decide +kernel
theorem dX5_keepsOut_20 : decode cX5_keepsOut 20 = .ok (.iload 5, 2) := by decide +kernel
theorem dX5_keepsOut_22 : decode cX5_keepsOut 22 = .ok (.istore 7, 2) := by decide +kernel
theorem dX5_keepsOut_24 : decode cX5_keepsOut 24 = .ok (.iconst 0, 1) := by decide +kernel
theorem dX5_keepsOut_25 : decode cX5_keepsOut 25 = .ok (.istore 8, 2) := by decide +kernel
theorem dX5_keepsOut_27 : decode cX5_keepsOut 27 = .ok (.iload 8, 2) := by decide +kernel
theorem dX5_keepsOut_29 : decode cX5_keepsOut 29 = .ok (.aload_n 0, 1) := by decide +kernel
theorem dX5_keepsOut_30 : decode cX5_keepsOut 30 = .ok (.getfield 27, 3) := by decide +kernel
theorem dX5_keepsOut_33 : decode cX5_keepsOut 33 = .ok (.getfield 59, 3) := by decide +kernel
theorem dX5_keepsOut_36 : decode cX5_keepsOut 36 = .ok (.if_icmp .ge 41, 3) := by decide +kernel
theorem dX5_keepsOut_39 : decode cX5_keepsOut 39 = .ok (.iload 5, 2) := by decide +kernel
theorem dX5_keepsOut_41 : decode cX5_keepsOut 41 = .ok (.iload 8, 2) := by decide +kernel
theorem dX5_keepsOut_43 : decode cX5_keepsOut 43 = .ok (.invokestatic 55, 3) := by decide +kernel
theorem dX5_keepsOut_46 : decode cX5_keepsOut 46 = .ok (.ifCond .eq 25, 3) := by decide +kernel
theorem dX5_keepsOut_49 : decode cX5_keepsOut 49 = .ok (.iload 7, 2) := by decide +kernel
theorem dX5_keepsOut_51 : decode cX5_keepsOut 51 = .ok (.aload_n 0, 1) := by decide +kernel
theorem dX5_keepsOut_52 : decode cX5_keepsOut 52 = .ok (.getfield 24, 3) := by decide +kernel
theorem dX5_keepsOut_55 : decode cX5_keepsOut 55 = .ok (.iload 6, 2) := by decide +kernel
theorem dX5_keepsOut_57 : decode cX5_keepsOut 57 = .ok (.bipush 8, 2) := by decide +kernel
theorem dX5_keepsOut_59 : decode cX5_keepsOut 59 = .ok (.imul, 1) := by decide +kernel
theorem dX5_keepsOut_60 : decode cX5_keepsOut 60 = .ok (.iload 8, 2) := by decide +kernel
theorem dX5_keepsOut_62 : decode cX5_keepsOut 62 = .ok (.iadd, 1) := by decide +kernel
theorem dX5_keepsOut_63 : decode cX5_keepsOut 63 = .ok (.iaload, 1) := by decide +kernel
theorem dX5_keepsOut_64 : decode cX5_keepsOut 64 = .ok (.iload_n 1, 1) := by decide +kernel
theorem dX5_keepsOut_65 : decode cX5_keepsOut 65 = .ok (.iconst (-1), 1) := by decide +kernel
theorem dX5_keepsOut_66 : decode cX5_keepsOut 66 = .ok (.ixor, 1) := by decide +kernel
theorem dX5_keepsOut_67 : decode cX5_keepsOut 67 = .ok (.iand, 1) := by decide +kernel
theorem dX5_keepsOut_68 : decode cX5_keepsOut 68 = .ok (.ior, 1) := by decide +kernel
theorem dX5_keepsOut_69 : decode cX5_keepsOut 69 = .ok (.istore 7, 2) := by decide +kernel
theorem dX5_keepsOut_71 : decode cX5_keepsOut 71 = .ok (.iinc 8 1, 3) := by decide +kernel
theorem dX5_keepsOut_74 : decode cX5_keepsOut 74 = .ok (.goto (-47), 3) := by decide +kernel
theorem dX5_keepsOut_77 : decode cX5_keepsOut 77 = .ok (.iload 7, 2) := by decide +kernel
theorem dX5_keepsOut_79 : decode cX5_keepsOut 79 = .ok (.istore 5, 2) := by decide +kernel
theorem dX5_keepsOut_81 : decode cX5_keepsOut 81 = .ok (.iinc 6 1, 3) := by decide +kernel
theorem dX5_keepsOut_84 : decode cX5_keepsOut 84 = .ok (.goto (-78), 3) := by decide +kernel
theorem dX5_keepsOut_87 : decode cX5_keepsOut 87 = .ok (.iload 5, 2) := by decide +kernel
theorem dX5_keepsOut_89 : decode cX5_keepsOut 89 = .ok (.iload_n 3, 1) := by decide +kernel
theorem dX5_keepsOut_90 : decode cX5_keepsOut 90 = .ok (.iand, 1) := by decide +kernel
theorem dX5_keepsOut_91 : decode cX5_keepsOut 91 = .ok (.ifCond .ne 7, 3) := by decide +kernel
theorem dX5_keepsOut_94 : decode cX5_keepsOut 94 = .ok (.iconst 1, 1) := by decide +kernel
theorem dX5_keepsOut_95 : decode cX5_keepsOut 95 = .ok (.goto 4, 3) := by decide +kernel
theorem dX5_keepsOut_98 : decode cX5_keepsOut 98 = .ok (.iconst 0, 1) := by decide +kernel
theorem dX5_keepsOut_99 : decode cX5_keepsOut 99 = .ok (.ireturn, 1) := by decide +kernel
theorem dX5_begin_0 : decode cX5_begin 0 = .ok (.aload_n 0, 1) := by decide +kernel
theorem dX5_begin_1 : decode cX5_begin 1 = .ok (.getfield 27, 3) := by decide +kernel
theorem dX5_begin_4 : decode cX5_begin 4 = .ok (.iload_n 1, 1) := by decide +kernel
theorem dX5_begin_5 : decode cX5_begin 5 = .ok (.invokevirtual 74, 3) := by decide +kernel
theorem dX5_begin_8 : decode cX5_begin 8 = .ok (.istore_n 2, 1) := by decide +kernel
theorem dX5_begin_9 : decode cX5_begin 9 = .ok (.iconst 0, 1) := by decide +kernel
theorem dX5_begin_10 : decode cX5_begin 10 = .ok (.istore_n 3, 1) := by decide +kernel
theorem dX5_begin_11 : decode cX5_begin 11 = .ok (.iload_n 3, 1) := by decide +kernel
theorem dX5_begin_12 : decode cX5_begin 12 = .ok (.aload_n 0, 1) := by decide +kernel
theorem dX5_begin_13 : decode cX5_begin 13 = .ok (.getfield 27, 3) := by decide +kernel
theorem dX5_begin_16 : decode cX5_begin 16 = .ok (.getfield 77, 3) := by decide +kernel
theorem dX5_begin_19 : decode cX5_begin 19 = .ok (.if_icmp .ge 23, 3) := by decide +kernel
theorem dX5_begin_22 : decode cX5_begin 22 = .ok (.aload_n 0, 1) := by decide +kernel
theorem dX5_begin_23 : decode cX5_begin 23 = .ok (.getfield 15, 3) := by decide +kernel
theorem dX5_begin_26 : decode cX5_begin 26 = .ok (.iload_n 3, 1) := by decide +kernel
theorem dX5_begin_27 : decode cX5_begin 27 = .ok (.aload_n 0, 1) := by decide +kernel
theorem dX5_begin_28 : decode cX5_begin 28 = .ok (.getfield 27, 3) := by decide +kernel
theorem dX5_begin_31 : decode cX5_begin 31 = .ok (.iload_n 3, 1) := by decide +kernel
theorem dX5_begin_32 : decode cX5_begin 32 = .ok (.invokevirtual 80, 3) := by decide +kernel
theorem dX5_begin_35 : decode cX5_begin 35 = .ok (.iastore, 1) := by decide +kernel
theorem dX5_begin_36 : decode cX5_begin 36 = .ok (.iinc 3 1, 3) := by decide +kernel
theorem dX5_begin_39 : decode cX5_begin 39 = .ok (.goto (-28), 3) := by decide +kernel
theorem dX5_begin_42 : decode cX5_begin 42 = .ok (.iconst 0, 1) := by decide +kernel
theorem dX5_begin_43 : decode cX5_begin 43 = .ok (.istore_n 3, 1) := by decide +kernel
theorem dX5_begin_44 : decode cX5_begin 44 = .ok (.iload_n 3, 1) := by decide +kernel
theorem dX5_begin_45 : decode cX5_begin 45 = .ok (.aload_n 0, 1) := by decide +kernel
theorem dX5_begin_46 : decode cX5_begin 46 = .ok (.getfield 27, 3) := by decide +kernel
theorem dX5_begin_49 : decode cX5_begin 49 = .ok (.getfield 59, 3) := by decide +kernel
theorem dX5_begin_52 : decode cX5_begin 52 = .ok (.if_icmp .ge 77, 3) := by decide +kernel
theorem dX5_begin_55 : decode cX5_begin 55 = .ok (.aload_n 0, 1) := by decide +kernel
theorem dX5_begin_56 : decode cX5_begin 56 = .ok (.getfield 21, 3) := by decide +kernel
theorem dX5_begin_59 : decode cX5_begin 59 = .ok (.iload_n 3, 1) := by decide +kernel
theorem dX5_begin_60 : decode cX5_begin 60 = .ok (.iconst 0, 1) := by decide +kernel
theorem dX5_begin_61 : decode cX5_begin 61 = .ok (.iastore, 1) := by decide +kernel
theorem dX5_begin_62 : decode cX5_begin 62 = .ok (.iconst 0, 1) := by decide +kernel
theorem dX5_begin_63 : decode cX5_begin 63 = .ok (.istore 4, 2) := by decide +kernel
theorem dX5_begin_65 : decode cX5_begin 65 = .ok (.iload 4, 2) := by decide +kernel
theorem dX5_begin_67 : decode cX5_begin 67 = .ok (.aload_n 0, 1) := by decide +kernel
theorem dX5_begin_68 : decode cX5_begin 68 = .ok (.getfield 27, 3) := by decide +kernel
theorem dX5_begin_71 : decode cX5_begin 71 = .ok (.getfield 59, 3) := by decide +kernel
theorem dX5_begin_74 : decode cX5_begin 74 = .ok (.if_icmp .ge 49, 3) := by decide +kernel
theorem dX5_begin_77 : decode cX5_begin 77 = .ok (.aload_n 0, 1) := by decide +kernel
theorem dX5_begin_78 : decode cX5_begin 78 = .ok (.getfield 27, 3) := by decide +kernel
theorem dX5_begin_81 : decode cX5_begin 81 = .ok (.getfield 83, 3) := by decide +kernel
theorem dX5_begin_84 : decode cX5_begin 84 = .ok (.iload_n 3, 1) := by decide +kernel
theorem dX5_begin_85 : decode cX5_begin 85 = .ok (.iaload, 1) := by decide +kernel
theorem dX5_begin_86 : decode cX5_begin 86 = .ok (.aload_n 0, 1) := by decide +kernel
theorem dX5_begin_87 : decode cX5_begin 87 = .ok (.getfield 27, 3) := by decide +kernel
theorem dX5_begin_90 : decode cX5_begin 90 = .ok (.getfield 83, 3) := by decide +kernel
theorem dX5_begin_93 : decode cX5_begin 93 = .ok (.iload 4, 2) := by decide +kernel
theorem dX5_begin_95 : decode cX5_begin 95 = .ok (.iaload, 1) := by decide +kernel
theorem dX5_begin_96 : decode cX5_begin 96 = .ok (.isub, 1) := by decide +kernel
theorem dX5_begin_97 : decode cX5_begin 97 = .ok (.invokestatic 86, 3) := by decide +kernel
theorem dX5_begin_100 : decode cX5_begin 100 = .ok (.iload_n 2, 1) := by decide +kernel
theorem dX5_begin_101 : decode cX5_begin 101 = .ok (.if_icmp .gt 16, 3) := by decide +kernel
theorem dX5_begin_104 : decode cX5_begin 104 = .ok (.aload_n 0, 1) := by decide +kernel
theorem dX5_begin_105 : decode cX5_begin 105 = .ok (.getfield 21, 3) := by decide +kernel
theorem dX5_begin_108 : decode cX5_begin 108 = .ok (.iload_n 3, 1) := by decide +kernel
theorem dX5_begin_109 : decode cX5_begin 109 = .ok (.dup2, 1) := by decide +kernel
theorem dX5_begin_110 : decode cX5_begin 110 = .ok (.iaload, 1) := by decide +kernel
theorem dX5_begin_111 : decode cX5_begin 111 = .ok (.iconst 1, 1) := by decide +kernel
theorem dX5_begin_112 : decode cX5_begin 112 = .ok (.iload 4, 2) := by decide +kernel
theorem dX5_begin_114 : decode cX5_begin 114 = .ok (.ishl, 1) := by decide +kernel
theorem dX5_begin_115 : decode cX5_begin 115 = .ok (.ior, 1) := by decide +kernel
theorem dX5_begin_116 : decode cX5_begin 116 = .ok (.iastore, 1) := by decide +kernel
theorem dX5_begin_117 : decode cX5_begin 117 = .ok (.iinc 4 1, 3) := by decide +kernel
theorem dX5_begin_120 : decode cX5_begin 120 = .ok (.goto (-55), 3) := by decide +kernel
theorem dX5_begin_123 : decode cX5_begin 123 = .ok (.iinc 3 1, 3) := by decide +kernel
theorem dX5_begin_126 : decode cX5_begin 126 = .ok (.goto (-82), 3) := by decide +kernel
theorem dX5_begin_129 : decode cX5_begin 129 = .ok (.return_, 1) := by decide +kernel
theorem dX5_lookAt_0 : decode cX5_lookAt 0 = .ok (.aload_n 0, 1) := by decide +kernel
theorem dX5_lookAt_1 : decode cX5_lookAt 1 = .ok (.getfield 27, 3) := by decide +kernel
theorem dX5_lookAt_4 : decode cX5_lookAt 4 = .ok (.iload_n 1, 1) := by decide +kernel
theorem dX5_lookAt_5 : decode cX5_lookAt 5 = .ok (.iload_n 2, 1) := by decide +kernel
theorem dX5_lookAt_6 : decode cX5_lookAt 6 = .ok (.invokevirtual 91, 3) := by decide +kernel
theorem dX5_lookAt_9 : decode cX5_lookAt 9 = .ok (.istore_n 3, 1) := by decide +kernel
theorem dX5_lookAt_10 : decode cX5_lookAt 10 = .ok (.iconst 0, 1) := by decide +kernel
theorem dX5_lookAt_11 : decode cX5_lookAt 11 = .ok (.istore 4, 2) := by decide +kernel
theorem dX5_lookAt_13 : decode cX5_lookAt 13 = .ok (.iload 4, 2) := by decide +kernel
theorem dX5_lookAt_15 : decode cX5_lookAt 15 = .ok (.aload_n 0, 1) := by decide +kernel
theorem dX5_lookAt_16 : decode cX5_lookAt 16 = .ok (.getfield 27, 3) := by decide +kernel
theorem dX5_lookAt_19 : decode cX5_lookAt 19 = .ok (.getfield 77, 3) := by decide +kernel
theorem dX5_lookAt_22 : decode cX5_lookAt 22 = .ok (.if_icmp .ge 124, 3) := by decide +kernel
theorem dX5_lookAt_25 : decode cX5_lookAt 25 = .ok (.aload_n 0, 1) := by decide +kernel
theorem dX5_lookAt_26 : decode cX5_lookAt 26 = .ok (.getfield 9, 3) := by decide +kernel
theorem dX5_lookAt_29 : decode cX5_lookAt 29 = .ok (.iload 4, 2) := by decide +kernel
theorem dX5_lookAt_31 : decode cX5_lookAt 31 = .ok (.aload_n 0, 1) := by decide +kernel
theorem dX5_lookAt_32 : decode cX5_lookAt 32 = .ok (.getfield 27, 3) := by decide +kernel
theorem dX5_lookAt_35 : decode cX5_lookAt 35 = .ok (.iload 4, 2) := by decide +kernel
theorem dX5_lookAt_37 : decode cX5_lookAt 37 = .ok (.iload_n 2, 1) := by decide +kernel
theorem dX5_lookAt_38 : decode cX5_lookAt 38 = .ok (.invokevirtual 95, 3) := by decide +kernel
theorem dX5_lookAt_41 : decode cX5_lookAt 41 = .ok (.iastore, 1) := by decide +kernel
theorem dX5_lookAt_42 : decode cX5_lookAt 42 = .ok (.aload_n 0, 1) := by decide +kernel
theorem dX5_lookAt_43 : decode cX5_lookAt 43 = .ok (.getfield 18, 3) := by decide +kernel
theorem dX5_lookAt_46 : decode cX5_lookAt 46 = .ok (.iload 4, 2) := by decide +kernel
theorem dX5_lookAt_48 : decode cX5_lookAt 48 = .ok (.aload_n 0, 1) := by decide +kernel
theorem dX5_lookAt_49 : decode cX5_lookAt 49 = .ok (.getfield 15, 3) := by decide +kernel
theorem dX5_lookAt_52 : decode cX5_lookAt 52 = .ok (.iload 4, 2) := by decide +kernel
theorem dX5_lookAt_54 : decode cX5_lookAt 54 = .ok (.iaload, 1) := by decide +kernel
theorem dX5_lookAt_55 : decode cX5_lookAt 55 = .ok (.iastore, 1) := by decide +kernel
theorem dX5_lookAt_56 : decode cX5_lookAt 56 = .ok (.iconst 0, 1) := by decide +kernel
theorem dX5_lookAt_57 : decode cX5_lookAt 57 = .ok (.istore 5, 2) := by decide +kernel
theorem dX5_lookAt_59 : decode cX5_lookAt 59 = .ok (.iload 5, 2) := by decide +kernel
theorem dX5_lookAt_61 : decode cX5_lookAt 61 = .ok (.iload 4, 2) := by decide +kernel
theorem dX5_lookAt_63 : decode cX5_lookAt 63 = .ok (.if_icmp .ge 77, 3) := by decide +kernel
theorem dX5_lookAt_66 : decode cX5_lookAt 66 = .ok (.aload_n 0, 1) := by decide +kernel
theorem dX5_lookAt_67 : decode cX5_lookAt 67 = .ok (.getfield 9, 3) := by decide +kernel
theorem dX5_lookAt_70 : decode cX5_lookAt 70 = .ok (.iload 4, 2) := by decide +kernel
theorem dX5_lookAt_72 : decode cX5_lookAt 72 = .ok (.iaload, 1) := by decide +kernel
theorem dX5_lookAt_73 : decode cX5_lookAt 73 = .ok (.aload_n 0, 1) := by decide +kernel
theorem dX5_lookAt_74 : decode cX5_lookAt 74 = .ok (.getfield 9, 3) := by decide +kernel
theorem dX5_lookAt_77 : decode cX5_lookAt 77 = .ok (.iload 5, 2) := by decide +kernel
theorem dX5_lookAt_79 : decode cX5_lookAt 79 = .ok (.iaload, 1) := by decide +kernel
theorem dX5_lookAt_80 : decode cX5_lookAt 80 = .ok (.isub, 1) := by decide +kernel
theorem dX5_lookAt_81 : decode cX5_lookAt 81 = .ok (.invokestatic 86, 3) := by decide +kernel
theorem dX5_lookAt_84 : decode cX5_lookAt 84 = .ok (.istore 6, 2) := by decide +kernel
theorem dX5_lookAt_86 : decode cX5_lookAt 86 = .ok (.iload 6, 2) := by decide +kernel
theorem dX5_lookAt_88 : decode cX5_lookAt 88 = .ok (.bipush 60, 2) := by decide +kernel
theorem dX5_lookAt_90 : decode cX5_lookAt 90 = .ok (.iload 6, 2) := by decide +kernel
theorem dX5_lookAt_92 : decode cX5_lookAt 92 = .ok (.isub, 1) := by decide +kernel
theorem dX5_lookAt_93 : decode cX5_lookAt 93 = .ok (.invokestatic 98, 3) := by decide +kernel
theorem dX5_lookAt_96 : decode cX5_lookAt 96 = .ok (.iload_n 3, 1) := by decide +kernel
theorem dX5_lookAt_97 : decode cX5_lookAt 97 = .ok (.if_icmp .gt 37, 3) := by decide +kernel
theorem dX5_lookAt_100 : decode cX5_lookAt 100 = .ok (.aload_n 0, 1) := by decide +kernel
theorem dX5_lookAt_101 : decode cX5_lookAt 101 = .ok (.getfield 18, 3) := by decide +kernel
theorem dX5_lookAt_104 : decode cX5_lookAt 104 = .ok (.iload 4, 2) := by decide +kernel
theorem dX5_lookAt_106 : decode cX5_lookAt 106 = .ok (.dup2, 1) := by decide +kernel
theorem dX5_lookAt_107 : decode cX5_lookAt 107 = .ok (.iaload, 1) := by decide +kernel
theorem dX5_lookAt_108 : decode cX5_lookAt 108 = .ok (.aload_n 0, 1) := by decide +kernel
theorem dX5_lookAt_109 : decode cX5_lookAt 109 = .ok (.getfield 15, 3) := by decide +kernel
theorem dX5_lookAt_112 : decode cX5_lookAt 112 = .ok (.iload 5, 2) := by decide +kernel
theorem dX5_lookAt_114 : decode cX5_lookAt 114 = .ok (.iaload, 1) := by decide +kernel
theorem dX5_lookAt_115 : decode cX5_lookAt 115 = .ok (.ior, 1) := by decide +kernel
theorem dX5_lookAt_116 : decode cX5_lookAt 116 = .ok (.iastore, 1) := by decide +kernel
theorem dX5_lookAt_117 : decode cX5_lookAt 117 = .ok (.aload_n 0, 1) := by decide +kernel
theorem dX5_lookAt_118 : decode cX5_lookAt 118 = .ok (.getfield 18, 3) := by decide +kernel
theorem dX5_lookAt_121 : decode cX5_lookAt 121 = .ok (.iload 5, 2) := by decide +kernel
theorem dX5_lookAt_123 : decode cX5_lookAt 123 = .ok (.dup2, 1) := by decide +kernel
theorem dX5_lookAt_124 : decode cX5_lookAt 124 = .ok (.iaload, 1) := by decide +kernel
theorem dX5_lookAt_125 : decode cX5_lookAt 125 = .ok (.aload_n 0, 1) := by decide +kernel
theorem dX5_lookAt_126 : decode cX5_lookAt 126 = .ok (.getfield 15, 3) := by decide +kernel
theorem dX5_lookAt_129 : decode cX5_lookAt 129 = .ok (.iload 4, 2) := by decide +kernel
theorem dX5_lookAt_131 : decode cX5_lookAt 131 = .ok (.iaload, 1) := by decide +kernel
theorem dX5_lookAt_132 : decode cX5_lookAt 132 = .ok (.ior, 1) := by decide +kernel
theorem dX5_lookAt_133 : decode cX5_lookAt 133 = .ok (.iastore, 1) := by decide +kernel
theorem dX5_lookAt_134 : decode cX5_lookAt 134 = .ok (.iinc 5 1, 3) := by decide +kernel
theorem dX5_lookAt_137 : decode cX5_lookAt 137 = .ok (.goto (-78), 3) := by decide +kernel
theorem dX5_lookAt_140 : decode cX5_lookAt 140 = .ok (.iinc 4 1, 3) := by decide +kernel
theorem dX5_lookAt_143 : decode cX5_lookAt 143 = .ok (.goto (-130), 3) := by decide +kernel
theorem dX5_lookAt_146 : decode cX5_lookAt 146 = .ok (.return_, 1) := by decide +kernel
theorem dX5_waysFrom_0 : decode cX5_waysFrom 0 = .ok (.aload_n 0, 1) := by decide +kernel
theorem dX5_waysFrom_1 : decode cX5_waysFrom 1 = .ok (.getfield 21, 3) := by decide +kernel
theorem dX5_waysFrom_4 : decode cX5_waysFrom 4 = .ok (.iload_n 1, 1) := by decide +kernel
theorem dX5_waysFrom_5 : decode cX5_waysFrom 5 = .ok (.iaload, 1) := by decide +kernel
theorem dX5_waysFrom_6 : decode cX5_waysFrom 6 = .ok (.aload_n 0, 1) := by decide +kernel
theorem dX5_waysFrom_7 : decode cX5_waysFrom 7 = .ok (.getfield 18, 3) := by decide +kernel
theorem dX5_waysFrom_10 : decode cX5_waysFrom 10 = .ok (.aload_n 0, 1) := by decide +kernel
theorem dX5_waysFrom_11 : decode cX5_waysFrom 11 = .ok (.getfield 27, 3) := by decide +kernel
theorem dX5_waysFrom_14 : decode cX5_waysFrom 14 = .ok (.getfield 101, 3) := by decide +kernel
theorem dX5_waysFrom_17 : decode cX5_waysFrom 17 = .ok (.iload_n 1, 1) := by decide +kernel
theorem dX5_waysFrom_18 : decode cX5_waysFrom 18 = .ok (.iaload, 1) := by decide +kernel
theorem dX5_waysFrom_19 : decode cX5_waysFrom 19 = .ok (.iaload, 1) := by decide +kernel
theorem dX5_waysFrom_20 : decode cX5_waysFrom 20 = .ok (.iand, 1) := by decide +kernel
theorem dX5_waysFrom_21 : decode cX5_waysFrom 21 = .ok (.ireturn, 1) := by decide +kernel
theorem dX5_step_0 : decode cX5_step 0 = .ok (.iload_n 1, 1) := by decide +kernel
theorem dX5_step_1 : decode cX5_step 1 = .ok (.istore_n 2, 1) := by decide +kernel
theorem dX5_step_2 : decode cX5_step 2 = .ok (.iconst 0, 1) := by decide +kernel
theorem dX5_step_3 : decode cX5_step 3 = .ok (.istore_n 3, 1) := by decide +kernel
theorem dX5_step_4 : decode cX5_step 4 = .ok (.iload_n 3, 1) := by decide +kernel
theorem dX5_step_5 : decode cX5_step 5 = .ok (.aload_n 0, 1) := by decide +kernel
theorem dX5_step_6 : decode cX5_step 6 = .ok (.getfield 27, 3) := by decide +kernel
theorem dX5_step_9 : decode cX5_step 9 = .ok (.getfield 59, 3) := by decide +kernel
theorem dX5_step_12 : decode cX5_step 12 = .ok (.if_icmp .ge 25, 3) := by decide +kernel
theorem dX5_step_15 : decode cX5_step 15 = .ok (.iload_n 1, 1) := by decide +kernel
theorem dX5_step_16 : decode cX5_step 16 = .ok (.iload_n 3, 1) := by decide +kernel
theorem dX5_step_17 : decode cX5_step 17 = .ok (.invokestatic 55, 3) := by decide +kernel
theorem dX5_step_20 : decode cX5_step 20 = .ok (.ifCond .eq 11, 3) := by decide +kernel
theorem dX5_step_23 : decode cX5_step 23 = .ok (.iload_n 2, 1) := by decide +kernel
theorem dX5_step_24 : decode cX5_step 24 = .ok (.aload_n 0, 1) := by decide +kernel
theorem dX5_step_25 : decode cX5_step 25 = .ok (.iload_n 3, 1) := by decide +kernel
theorem dX5_step_26 : decode cX5_step 26 = .ok (.invokevirtual 62, 3) := by decide +kernel
theorem dX5_step_29 : decode cX5_step 29 = .ok (.ior, 1) := by decide +kernel
theorem dX5_step_30 : decode cX5_step 30 = .ok (.istore_n 2, 1) := by decide +kernel
theorem dX5_step_31 : decode cX5_step 31 = .ok (.iinc 3 1, 3) := by decide +kernel
theorem dX5_step_34 : decode cX5_step 34 = .ok (.goto (-30), 3) := by decide +kernel
theorem dX5_step_37 : decode cX5_step 37 = .ok (.iload_n 2, 1) := by decide +kernel
theorem dX5_step_38 : decode cX5_step 38 = .ok (.ireturn, 1) := by decide +kernel
theorem dX5_spread_0 : decode cX5_spread 0 = .ok (.iload_n 1, 1) := by decide +kernel
theorem dX5_spread_1 : decode cX5_spread 1 = .ok (.istore_n 2, 1) := by decide +kernel
theorem dX5_spread_2 : decode cX5_spread 2 = .ok (.iconst 1, 1) := by decide +kernel
theorem dX5_spread_3 : decode cX5_spread 3 = .ok (.istore_n 3, 1) := by decide +kernel
theorem dX5_spread_4 : decode cX5_spread 4 = .ok (.iload_n 3, 1) := by decide +kernel
theorem dX5_spread_5 : decode cX5_spread 5 = .ok (.aload_n 0, 1) := by decide +kernel
theorem dX5_spread_6 : decode cX5_spread 6 = .ok (.getfield 27, 3) := by decide +kernel
theorem dX5_spread_9 : decode cX5_spread 9 = .ok (.getfield 59, 3) := by decide +kernel
theorem dX5_spread_12 : decode cX5_spread 12 = .ok (.if_icmp .ge 49, 3) := by decide +kernel
theorem dX5_spread_15 : decode cX5_spread 15 = .ok (.iconst 0, 1) := by decide +kernel
theorem dX5_spread_16 : decode cX5_spread 16 = .ok (.istore 4, 2) := by decide +kernel
theorem dX5_spread_18 : decode cX5_spread 18 = .ok (.iload 4, 2) := by decide +kernel
theorem dX5_spread_20 : decode cX5_spread 20 = .ok (.aload_n 0, 1) := by decide +kernel
theorem dX5_spread_21 : decode cX5_spread 21 = .ok (.getfield 27, 3) := by decide +kernel
theorem dX5_spread_24 : decode cX5_spread 24 = .ok (.getfield 59, 3) := by decide +kernel
theorem dX5_spread_27 : decode cX5_spread 27 = .ok (.if_icmp .ge 28, 3) := by decide +kernel
theorem dX5_spread_30 : decode cX5_spread 30 = .ok (.iload_n 2, 1) := by decide +kernel
theorem dX5_spread_31 : decode cX5_spread 31 = .ok (.iload 4, 2) := by decide +kernel
theorem dX5_spread_33 : decode cX5_spread 33 = .ok (.invokestatic 55, 3) := by decide +kernel
theorem dX5_spread_36 : decode cX5_spread 36 = .ok (.ifCond .eq 13, 3) := by decide +kernel
theorem dX5_spread_39 : decode cX5_spread 39 = .ok (.iload_n 2, 1) := by decide +kernel
theorem dX5_spread_40 : decode cX5_spread 40 = .ok (.aload_n 0, 1) := by decide +kernel
theorem dX5_spread_41 : decode cX5_spread 41 = .ok (.getfield 21, 3) := by decide +kernel
theorem dX5_spread_44 : decode cX5_spread 44 = .ok (.iload 4, 2) := by decide +kernel
theorem dX5_spread_46 : decode cX5_spread 46 = .ok (.iaload, 1) := by decide +kernel
theorem dX5_spread_47 : decode cX5_spread 47 = .ok (.ior, 1) := by decide +kernel
theorem dX5_spread_48 : decode cX5_spread 48 = .ok (.istore_n 2, 1) := by decide +kernel
theorem dX5_spread_49 : decode cX5_spread 49 = .ok (.iinc 4 1, 3) := by decide +kernel
theorem dX5_spread_52 : decode cX5_spread 52 = .ok (.goto (-34), 3) := by decide +kernel
theorem dX5_spread_55 : decode cX5_spread 55 = .ok (.iinc 3 1, 3) := by decide +kernel
theorem dX5_spread_58 : decode cX5_spread 58 = .ok (.goto (-54), 3) := by decide +kernel
theorem dX5_spread_61 : decode cX5_spread 61 = .ok (.iload_n 2, 1) := by decide +kernel
theorem dX5_spread_62 : decode cX5_spread 62 = .ok (.ireturn, 1) := by decide +kernel
