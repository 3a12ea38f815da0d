theorem dX3_init_0 : decode cX3_init 0 = .ok (.aload_n 0, 1) := by decide +kernel
theorem dX3_init_1 : decode cX3_init 1 = .ok (.invokespecial 3, 3) := by decide +kernel
theorem dX3_init_4 : decode cX3_init 4 = .ok (.aload_n 0, 1) := by decide +kernel
theorem dX3_init_5 : decode cX3_init 5 = .ok (.iconst 4, 1) := by decide +kernel
theorem dX3_init_6 : decode cX3_init 6 = .ok (.newarray .int, 2) := by decide +kernel
theorem dX3_init_8 : decode cX3_init 8 = .ok (.putfield 9, 3) := by decide +kernel
theorem dX3_init_11 : decode cX3_init 11 = .ok (.aload_n 0, 1) := by decide +kernel
theorem dX3_init_12 : decode cX3_init 12 = .ok (.iconst 4, 1) := by decide +kernel
theorem dX3_init_13 : decode cX3_init 13 = .ok (.newarray .int, 2) := by decide +kernel
theorem dX3_init_15 : decode cX3_init 15 = .ok (.putfield 15, 3) := by decide +kernel
theorem dX3_init_18 : decode cX3_init 18 = .ok (.aload_n 0, 1) := by decide +kernel
theorem dX3_init_19 : decode cX3_init 19 = .ok (.bipush 8, 2) := by decide +kernel
theorem dX3_init_21 : decode cX3_init 21 = .ok (.newarray .int, 2) := by decide +kernel
theorem dX3_init_23 : decode cX3_init 23 = .ok (.putfield 18, 3) := by decide +kernel
theorem dX3_init_26 : decode cX3_init 26 = .ok (.aload_n 0, 1) := by decide +kernel
theorem dX3_init_27 : decode cX3_init 27 = .ok (.bipush 8, 2) := by decide +kernel
theorem dX3_init_29 : decode cX3_init 29 = .ok (.newarray .int, 2) := by decide +kernel
theorem dX3_init_31 : decode cX3_init 31 = .ok (.putfield 21, 3) := by decide +kernel
theorem dX3_init_34 : decode cX3_init 34 = .ok (.aload_n 0, 1) := by decide +kernel
theorem dX3_init_35 : decode cX3_init 35 = .ok (.bipush 6, 2) := by decide +kernel
theorem dX3_init_37 : decode cX3_init 37 = .ok (.newarray .int, 2) := by decide +kernel
theorem dX3_init_39 : decode cX3_init 39 = .ok (.putfield 24, 3) := by decide +kernel
theorem dX3_init_42 : decode cX3_init 42 = .ok (.aload_n 0, 1) := by decide +kernel
theorem dX3_init_43 : decode cX3_init 43 = .ok (.bipush 6, 2) := by decide +kernel
theorem dX3_init_45 : decode cX3_init 45 = .ok (.newarray .int, 2) := by decide +kernel
theorem dX3_init_47 : decode cX3_init 47 = .ok (.putfield 27, 3) := by decide +kernel
theorem dX3_init_50 : decode cX3_init 50 = .ok (.aload_n 0, 1) := by decide +kernel
theorem dX3_init_51 : decode cX3_init 51 = .ok (.bipush 6, 2) := by decide +kernel
theorem dX3_init_53 : decode cX3_init 53 = .ok (.newarray .int, 2) := by decide +kernel
theorem dX3_init_55 : decode cX3_init 55 = .ok (.putfield 30, 3) := by decide +kernel
theorem dX3_init_58 : decode cX3_init 58 = .ok (.aload_n 0, 1) := by decide +kernel
theorem dX3_init_59 : decode cX3_init 59 = .ok (.iconst 1, 1) := by decide +kernel
theorem dX3_init_60 : decode cX3_init 60 = .ok (.putfield 33, 3) := by decide +kernel
theorem dX3_init_63 : decode cX3_init 63 = .ok (.aload_n 0, 1) := by decide +kernel
theorem dX3_init_64 : decode cX3_init 64 = .ok (.bipush 60, 2) := by decide +kernel
theorem dX3_init_66 : decode cX3_init 66 = .ok (.newarray .byte, 2) := by decide +kernel
theorem dX3_init_68 : decode cX3_init 68 = .ok (.putfield 37, 3) := by decide +kernel
theorem dX3_init_71 : decode cX3_init 71 = .ok (.aload_n 0, 1) := by decide +kernel
theorem dX3_init_72 : decode cX3_init 72 = .ok (.bipush 24, 2) := by decide +kernel
theorem dX3_init_74 : decode cX3_init 74 = .ok (.newarray .int, 2) := by decide +kernel
theorem dX3_init_76 : decode cX3_init 76 = .ok (.putfield 41, 3) := by decide +kernel
theorem dX3_init_79 : decode cX3_init 79 = .ok (.aload_n 0, 1) := by decide +kernel
theorem dX3_init_80 : decode cX3_init 80 = .ok (.iconst 2, 1) := by decide +kernel
theorem dX3_init_81 : decode cX3_init 81 = .ok (.anewarray 44, 3) := by decide +kernel
theorem dX3_init_84 : decode cX3_init 84 = .ok (.dup, 1) := by decide +kernel
theorem dX3_init_85 : decode cX3_init 85 = .ok (.iconst 0, 1) := by decide +kernel
theorem dX3_init_86 : decode cX3_init 86 = .ok (.new 44, 3) := by decide +kernel
theorem dX3_init_89 : decode cX3_init 89 = .ok (.dup, 1) := by decide +kernel
theorem dX3_init_90 : decode cX3_init 90 = .ok (.invokespecial 46, 3) := by decide +kernel
theorem dX3_init_93 : decode cX3_init 93 = .ok (.aastore, 1) := by decide +kernel
theorem dX3_init_94 : decode cX3_init 94 = .ok (.dup, 1) := by decide +kernel
theorem dX3_init_95 : decode cX3_init 95 = .ok (.iconst 1, 1) := by decide +kernel
theorem dX3_init_96 : decode cX3_init 96 = .ok (.new 44, 3) := by decide +kernel
theorem dX3_init_99 : decode cX3_init 99 = .ok (.dup, 1) := by decide +kernel
theorem dX3_init_100 : decode cX3_init 100 = .ok (.invokespecial 46, 3) := by decide +kernel
theorem dX3_init_103 : decode cX3_init 103 = .ok (.aastore, 1) := by decide +kernel
theorem dX3_init_104 : decode cX3_init 104 = .ok (.putfield 47, 3) := by decide +kernel
theorem dX3_init_107 : decode cX3_init 107 = .ok (.return_, 1) := by decide +kernel
theorem dX3_take_0 : decode cX3_take 0 = .ok (.aload_n 0, 1) := by decide +kernel
theorem dX3_take_1 : decode cX3_take 1 = .ok (.aload_n 1, 1) := by decide +kernel
theorem dX3_take_2 : decode cX3_take 2 = .ok (.getfield 51, 3) := by decide +kernel
theorem dX3_take_5 : decode cX3_take 5 = .ok (.putfield 51, 3) := by decide +kernel
theorem dX3_take_8 : decode cX3_take 8 = .ok (.aload_n 1, 1) := by decide +kernel
theorem dX3_take_9 : decode cX3_take 9 = .ok (.getfield 9, 3) := by decide +kernel
theorem dX3_take_12 : decode cX3_take 12 = .ok (.iconst 0, 1) := by decide +kernel
theorem dX3_take_13 : decode cX3_take 13 = .ok (.aload_n 0, 1) := by decide +kernel
theorem dX3_take_14 : decode cX3_take 14 = .ok (.getfield 9, 3) := by decide +kernel
theorem dX3_take_17 : decode cX3_take 17 = .ok (.iconst 0, 1) := by decide +kernel
theorem dX3_take_18 : decode cX3_take 18 = .ok (.iconst 4, 1) := by decide +kernel
theorem dX3_take_19 : decode cX3_take 19 = .ok (.invokestatic 54, 3) := by decide +kernel
theorem dX3_take_22 : decode cX3_take 22 = .ok (.aload_n 1, 1) := by decide +kernel
theorem dX3_take_23 : decode cX3_take 23 = .ok (.getfield 15, 3) := by decide +kernel
theorem dX3_take_26 : decode cX3_take 26 = .ok (.iconst 0, 1) := by decide +kernel
theorem dX3_take_27 : decode cX3_take 27 = .ok (.aload_n 0, 1) := by decide +kernel
theorem dX3_take_28 : decode cX3_take 28 = .ok (.getfield 15, 3) := by decide +kernel
theorem dX3_take_31 : decode cX3_take 31 = .ok (.iconst 0, 1) := by decide +kernel
theorem dX3_take_32 : decode cX3_take 32 = .ok (.iconst 4, 1) := by decide +kernel
theorem dX3_take_33 : decode cX3_take 33 = .ok (.invokestatic 54, 3) := by decide +kernel
theorem dX3_take_36 : decode cX3_take 36 = .ok (.aload_n 0, 1) := by decide +kernel
theorem dX3_take_37 : decode cX3_take 37 = .ok (.aload_n 1, 1) := by decide +kernel
theorem dX3_take_38 : decode cX3_take 38 = .ok (.getfield 60, 3) := by decide +kernel
theorem dX3_take_41 : decode cX3_take 41 = .ok (.putfield 60, 3) := by decide +kernel
theorem dX3_take_44 : decode cX3_take 44 = .ok (.aload_n 1, 1) := by decide +kernel
theorem dX3_take_45 : decode cX3_take 45 = .ok (.getfield 18, 3) := by decide +kernel
theorem dX3_take_48 : decode cX3_take 48 = .ok (.iconst 0, 1) := by decide +kernel
theorem dX3_take_49 : decode cX3_take 49 = .ok (.aload_n 0, 1) := by decide +kernel
theorem dX3_take_50 : decode cX3_take 50 = .ok (.getfield 18, 3) := by decide +kernel
theorem dX3_take_53 : decode cX3_take 53 = .ok (.iconst 0, 1) := by decide +kernel
theorem dX3_take_54 : decode cX3_take 54 = .ok (.bipush 8, 2) := by decide +kernel
theorem dX3_take_56 : decode cX3_take 56 = .ok (.invokestatic 54, 3) := by decide +kernel
theorem dX3_take_59 : decode cX3_take 59 = .ok (.aload_n 1, 1) := by decide +kernel
theorem dX3_take_60 : decode cX3_take 60 = .ok (.getfield 21, 3) := by decide +kernel
theorem dX3_take_63 : decode cX3_take 63 = .ok (.iconst 0, 1) := by decide +kernel
theorem dX3_take_64 : decode cX3_take 64 = .ok (.aload_n 0, 1) := by decide +kernel
theorem dX3_take_65 : decode cX3_take 65 = .ok (.getfield 21, 3) := by decide +kernel
theorem dX3_take_68 : decode cX3_take 68 = .ok (.iconst 0, 1) := by decide +kernel
theorem dX3_take_69 : decode cX3_take 69 = .ok (.bipush 8, 2) := by decide +kernel
theorem dX3_take_71 : decode cX3_take 71 = .ok (.invokestatic 54, 3) := by decide +kernel
theorem dX3_take_74 : decode cX3_take 74 = .ok (.aload_n 0, 1) := by decide +kernel
theorem dX3_take_75 : decode cX3_take 75 = .ok (.aload_n 1, 1) := by decide +kernel
theorem dX3_take_76 : decode cX3_take 76 = .ok (.getfield 63, 3) := by decide +kernel
theorem dX3_take_79 : decode cX3_take 79 = .ok (.putfield 63, 3) := by decide +kernel
theorem dX3_take_82 : decode cX3_take 82 = .ok (.aload_n 1, 1) := by decide +kernel
theorem dX3_take_83 : decode cX3_take 83 = .ok (.getfield 24, 3) := by decide +kernel
theorem dX3_take_86 : decode cX3_take 86 = .ok (.iconst 0, 1) := by decide +kernel
theorem dX3_take_87 : decode cX3_take 87 = .ok (.aload_n 0, 1) := by decide +kernel
theorem dX3_take_88 : decode cX3_take 88 = .ok (.getfield 24, 3) := by decide +kernel
theorem dX3_take_91 : decode cX3_take 91 = .ok (.iconst 0, 1) := by decide +kernel
theorem dX3_take_92 : decode cX3_take 92 = .ok (.bipush 6, 2) := by decide +kernel
theorem dX3_take_94 : decode cX3_take 94 = .ok (.invokestatic 54, 3) := by decide +kernel
theorem dX3_take_97 : decode cX3_take 97 = .ok (.aload_n 1, 1) := by decide +kernel
theorem dX3_take_98 : decode cX3_take 98 = .ok (.getfield 27, 3) := by decide +kernel
theorem dX3_take_101 : decode cX3_take 101 = .ok (.iconst 0, 1) := by decide +kernel
theorem dX3_take_102 : decode cX3_take 102 = .ok (.aload_n 0, 1) := by decide +kernel
theorem dX3_take_103 : decode cX3_take 103 = .ok (.getfield 27, 3) := by decide +kernel
theorem dX3_take_106 : decode cX3_take 106 = .ok (.iconst 0, 1) := by decide +kernel
theorem dX3_take_107 : decode cX3_take 107 = .ok (.bipush 6, 2) := by decide +kernel
theorem dX3_take_109 : decode cX3_take 109 = .ok (.invokestatic 54, 3) := by decide +kernel
theorem dX3_take_112 : decode cX3_take 112 = .ok (.aload_n 1, 1) := by decide +kernel
theorem dX3_take_113 : decode cX3_take 113 = .ok (.getfield 30, 3) := by decide +kernel
theorem dX3_take_116 : decode cX3_take 116 = .ok (.iconst 0, 1) := by decide +kernel
theorem dX3_take_117 : decode cX3_take 117 = .ok (.aload_n 0, 1) := by decide +kernel
theorem dX3_take_118 : decode cX3_take 118 = .ok (.getfield 30, 3) := by decide +kernel
theorem dX3_take_121 : decode cX3_take 121 = .ok (.iconst 0, 1) := by decide +kernel
theorem dX3_take_122 : decode cX3_take 122 = .ok (.bipush 6, 2) := by decide +kernel
theorem dX3_take_124 : decode cX3_take 124 = .ok (.invokestatic 54, 3) := by decide +kernel
theorem dX3_take_127 : decode cX3_take 127 = .ok (.aload_n 0, 1) := by decide +kernel
theorem dX3_take_128 : decode cX3_take 128 = .ok (.aload_n 1, 1) := by decide +kernel
theorem dX3_take_129 : decode cX3_take 129 = .ok (.getfield 66, 3) := by decide +kernel
theorem dX3_take_132 : decode cX3_take 132 = .ok (.putfield 66, 3) := by decide +kernel
theorem dX3_take_135 : decode cX3_take 135 = .ok (.aload_n 0, 1) := by decide +kernel
theorem dX3_take_136 : decode cX3_take 136 = .ok (.aload_n 1, 1) := by decide +kernel
theorem dX3_take_137 : decode cX3_take 137 = .ok (.getfield 33, 3) := by decide +kernel
theorem dX3_take_140 : decode cX3_take 140 = .ok (.putfield 33, 3) := by decide +kernel
theorem dX3_take_143 : decode cX3_take 143 = .ok (.aload_n 0, 1) := by decide +kernel
theorem dX3_take_144 : decode cX3_take 144 = .ok (.aload_n 1, 1) := by decide +kernel
theorem dX3_take_145 : decode cX3_take 145 = .ok (.getfield 69, 3) := by decide +kernel
theorem dX3_take_148 : decode cX3_take 148 = .ok (.putfield 69, 3) := by decide +kernel
theorem dX3_take_151 : decode cX3_take 151 = .ok (.aload_n 1, 1) := by decide +kernel
theorem dX3_take_152 : decode cX3_take 152 = .ok (.getfield 37, 3) := by decide +kernel
theorem dX3_take_155 : decode cX3_take 155 = .ok (.iconst 0, 1) := by decide +kernel
theorem dX3_take_156 : decode cX3_take 156 = .ok (.aload_n 0, 1) := by decide +kernel
theorem dX3_take_157 : decode cX3_take 157 = .ok (.getfield 37, 3) := by decide +kernel
theorem dX3_take_160 : decode cX3_take 160 = .ok (.iconst 0, 1) := by decide +kernel
theorem dX3_take_161 : decode cX3_take 161 = .ok (.bipush 60, 2) := by decide +kernel
theorem dX3_take_163 : decode cX3_take 163 = .ok (.invokestatic 54, 3) := by decide +kernel
theorem dX3_take_166 : decode cX3_take 166 = .ok (.aload_n 0, 1) := by decide +kernel
theorem dX3_take_167 : decode cX3_take 167 = .ok (.aload_n 1, 1) := by decide +kernel
theorem dX3_take_168 : decode cX3_take 168 = .ok (.getfield 72, 3) := by decide +kernel
theorem dX3_take_171 : decode cX3_take 171 = .ok (.putfield 72, 3) := by decide +kernel
theorem dX3_take_174 : decode cX3_take 174 = .ok (.aload_n 1, 1) := by decide +kernel
theorem dX3_take_175 : decode cX3_take 175 = .ok (.getfield 41, 3) := by decide +kernel
theorem dX3_take_178 : decode cX3_take 178 = .ok (.iconst 0, 1) := by decide +kernel
theorem dX3_take_179 : decode cX3_take 179 = .ok (.aload_n 0, 1) := by decide +kernel
theorem dX3_take_180 : decode cX3_take 180 = .ok (.getfield 41, 3) := by decide +kernel
theorem dX3_take_183 : decode cX3_take 183 = .ok (.iconst 0, 1) := by decide +kernel
theorem dX3_take_184 : decode cX3_take 184 = .ok (.bipush 24, 2) := by decide +kernel
theorem dX3_take_186 : decode cX3_take 186 = .ok (.invokestatic 54, 3) := by decide +kernel
theorem dX3_take_189 : decode cX3_take 189 = .ok (.iconst 0, 1) := by decide +kernel
theorem dX3_take_190 : decode cX3_take 190 = .ok (.istore_n 2, 1) := by decide +kernel
theorem dX3_take_191 : decode cX3_take 191 = .ok (.iload_n 2, 1) := by decide +kernel
theorem dX3_take_192 : decode cX3_take 192 = .ok (.iconst 1, 1) := by decide +kernel
theorem dX3_take_193 : decode cX3_take 193 = .ok (.if_icmp .gt 36, 3) := by decide +kernel
theorem dX3_take_196 : decode cX3_take 196 = .ok (.aload_n 0, 1) := by decide +kernel
theorem dX3_take_197 : decode cX3_take 197 = .ok (.getfield 47, 3) := by decide +kernel
theorem dX3_take_200 : decode cX3_take 200 = .ok (.iload_n 2, 1) := by decide +kernel
theorem dX3_take_201 : decode cX3_take 201 = .ok (.aaload, 1) := by decide +kernel
theorem dX3_take_202 : decode cX3_take 202 = .ok (.aload_n 1, 1) := by decide +kernel
theorem dX3_take_203 : decode cX3_take 203 = .ok (.getfield 47, 3) := by decide +kernel
theorem dX3_take_206 : decode cX3_take 206 = .ok (.iload_n 2, 1) := by decide +kernel
theorem dX3_take_207 : decode cX3_take 207 = .ok (.aaload, 1) := by decide +kernel
theorem dX3_take_208 : decode cX3_take 208 = .ok (.getfield 75, 3) := by decide +kernel
theorem dX3_take_211 : decode cX3_take 211 = .ok (.aload_n 1, 1) := by decide +kernel
theorem dX3_take_212 : decode cX3_take 212 = .ok (.getfield 47, 3) := by decide +kernel
theorem dX3_take_215 : decode cX3_take 215 = .ok (.iload_n 2, 1) := by decide +kernel
theorem dX3_take_216 : decode cX3_take 216 = .ok (.aaload, 1) := by decide +kernel
theorem dX3_take_217 : decode cX3_take 217 = .ok (.getfield 78, 3) := by decide +kernel
theorem dX3_take_220 : decode cX3_take 220 = .ok (.invokevirtual 81, 3) := by decide +kernel
theorem dX3_take_223 : decode cX3_take 223 = .ok (.iinc 2 1, 3) := by decide +kernel
theorem dX3_take_226 : decode cX3_take 226 = .ok (.goto (-35), 3) := by decide +kernel
theorem dX3_take_229 : decode cX3_take 229 = .ok (.return_, 1) := by decide +kernel
theorem dX3_hasHand_0 : decode cX3_hasHand 0 = .ok (.iload_n 1, 1) := by decide +kernel
theorem dX3_hasHand_1 : decode cX3_hasHand 1 = .ok (.iconst 0, 1) := by decide +kernel
theorem dX3_hasHand_2 : decode cX3_hasHand 2 = .ok (.aload_n 0, 1) := by decide +kernel
theorem dX3_hasHand_3 : decode cX3_hasHand 3 = .ok (.getfield 51, 3) := by decide +kernel
theorem dX3_hasHand_6 : decode cX3_hasHand 6 = .ok (.iconst 1, 1) := by decide +kernel
theorem dX3_hasHand_7 : decode cX3_hasHand 7 = .ok (.isub, 1) := by decide +kernel
theorem dX3_hasHand_8 : decode cX3_hasHand 8 = .ok (.invokestatic 85, 3) := by decide +kernel
theorem dX3_hasHand_11 : decode cX3_hasHand 11 = .ok (.ireturn, 1) := by decide +kernel
theorem dX3_hasHome_0 : decode cX3_hasHome 0 = .ok (.iload_n 1, 1) := by decide +kernel
theorem dX3_hasHome_1 : decode cX3_hasHome 1 = .ok (.iconst 0, 1) := by decide +kernel
theorem dX3_hasHome_2 : decode cX3_hasHome 2 = .ok (.aload_n 0, 1) := by decide +kernel
theorem dX3_hasHome_3 : decode cX3_hasHome 3 = .ok (.getfield 60, 3) := by decide +kernel
theorem dX3_hasHome_6 : decode cX3_hasHome 6 = .ok (.iconst 1, 1) := by decide +kernel
theorem dX3_hasHome_7 : decode cX3_hasHome 7 = .ok (.isub, 1) := by decide +kernel
theorem dX3_hasHome_8 : decode cX3_hasHome 8 = .ok (.invokestatic 85, 3) := by decide +kernel
theorem dX3_hasHome_11 : decode cX3_hasHome 11 = .ok (.ireturn, 1) := by decide +kernel
theorem dX3_hasPerson_0 : decode cX3_hasPerson 0 = .ok (.iload_n 1, 1) := by decide +kernel
theorem dX3_hasPerson_1 : decode cX3_hasPerson 1 = .ok (.iconst 0, 1) := by decide +kernel
theorem dX3_hasPerson_2 : decode cX3_hasPerson 2 = .ok (.aload_n 0, 1) := by decide +kernel
theorem dX3_hasPerson_3 : decode cX3_hasPerson 3 = .ok (.getfield 63, 3) := by decide +kernel
theorem dX3_hasPerson_6 : decode cX3_hasPerson 6 = .ok (.iconst 1, 1) := by decide +kernel
theorem dX3_hasPerson_7 : decode cX3_hasPerson 7 = .ok (.isub, 1) := by decide +kernel
theorem dX3_hasPerson_8 : decode cX3_hasPerson 8 = .ok (.invokestatic 85, 3) := by decide +kernel
theorem dX3_hasPerson_11 : decode cX3_hasPerson 11 = .ok (.ireturn, 1) := by decide +kernel
theorem dX3_addHand_0 : decode cX3_addHand 0 = .ok (.aload_n 0, 1) := by decide +kernel
theorem dX3_addHand_1 : decode cX3_addHand 1 = .ok (.getfield 9, 3) := by decide +kernel
theorem dX3_addHand_4 : decode cX3_addHand 4 = .ok (.aload_n 0, 1) := by decide +kernel
theorem dX3_addHand_5 : decode cX3_addHand 5 = .ok (.getfield 51, 3) := by decide +kernel
theorem dX3_addHand_8 : decode cX3_addHand 8 = .ok (.iload_n 1, 1) := by decide +kernel
theorem dX3_addHand_9 : decode cX3_addHand 9 = .ok (.iastore, 1) := by decide +kernel
theorem dX3_addHand_10 : decode cX3_addHand 10 = .ok (.aload_n 0, 1) := by decide +kernel
theorem dX3_addHand_11 : decode cX3_addHand 11 = .ok (.getfield 15, 3) := by decide +kernel
theorem dX3_addHand_14 : decode cX3_addHand 14 = .ok (.aload_n 0, 1) := by decide +kernel
theorem dX3_addHand_15 : decode cX3_addHand 15 = .ok (.getfield 51, 3) := by decide +kernel
theorem dX3_addHand_18 : decode cX3_addHand 18 = .ok (.iload_n 2, 1) := by decide +kernel
theorem dX3_addHand_19 : decode cX3_addHand 19 = .ok (.iastore, 1) := by decide +kernel
theorem dX3_addHand_20 : decode cX3_addHand 20 = .ok (.aload_n 0, 1) := by decide +kernel
theorem dX3_addHand_21 : decode cX3_addHand 21 = .ok (.dup, 1) := by decide +kernel
theorem dX3_addHand_22 : decode cX3_addHand 22 = .ok (.getfield 51, 3) := by decide +kernel
theorem dX3_addHand_25 : decode cX3_addHand 25 = .ok (.iconst 1, 1) := by decide +kernel
theorem dX3_addHand_26 : decode cX3_addHand 26 = .ok (.iadd, 1) := by decide +kernel
theorem dX3_addHand_27 : decode cX3_addHand 27 = .ok (.putfield 51, 3) := by decide +kernel
theorem dX3_addHand_30 : decode cX3_addHand 30 = .ok (.aload_n 0, 1) := by decide +kernel
theorem dX3_addHand_31 : decode cX3_addHand 31 = .ok (.getfield 51, 3) := by decide +kernel
theorem dX3_addHand_34 : decode cX3_addHand 34 = .ok (.iconst 1, 1) := by decide +kernel
theorem dX3_addHand_35 : decode cX3_addHand 35 = .ok (.isub, 1) := by decide +kernel
theorem dX3_addHand_36 : decode cX3_addHand 36 = .ok (.ireturn, 1) := by decide +kernel
theorem dX3_addHome_0 : decode cX3_addHome 0 = .ok (.aload_n 0, 1) := by decide +kernel
theorem dX3_addHome_1 : decode cX3_addHome 1 = .ok (.getfield 18, 3) := by decide +kernel
theorem dX3_addHome_4 : decode cX3_addHome 4 = .ok (.aload_n 0, 1) := by decide +kernel
theorem dX3_addHome_5 : decode cX3_addHome 5 = .ok (.getfield 60, 3) := by decide +kernel
theorem dX3_addHome_8 : decode cX3_addHome 8 = .ok (.iload_n 1, 1) := by decide +kernel
theorem dX3_addHome_9 : decode cX3_addHome 9 = .ok (.iastore, 1) := by decide +kernel
theorem dX3_addHome_10 : decode cX3_addHome 10 = .ok (.aload_n 0, 1) := by decide +kernel
theorem dX3_addHome_11 : decode cX3_addHome 11 = .ok (.getfield 21, 3) := by decide +kernel
theorem dX3_addHome_14 : decode cX3_addHome 14 = .ok (.aload_n 0, 1) := by decide +kernel
theorem dX3_addHome_15 : decode cX3_addHome 15 = .ok (.getfield 60, 3) := by decide +kernel
theorem dX3_addHome_18 : decode cX3_addHome 18 = .ok (.iload_n 2, 1) := by decide +kernel
theorem dX3_addHome_19 : decode cX3_addHome 19 = .ok (.iastore, 1) := by decide +kernel
theorem dX3_addHome_20 : decode cX3_addHome 20 = .ok (.aload_n 0, 1) := by decide +kernel
theorem dX3_addHome_21 : decode cX3_addHome 21 = .ok (.dup, 1) := by decide +kernel
theorem dX3_addHome_22 : decode cX3_addHome 22 = .ok (.getfield 60, 3) := by decide +kernel
theorem dX3_addHome_25 : decode cX3_addHome 25 = .ok (.iconst 1, 1) := by decide +kernel
theorem dX3_addHome_26 : decode cX3_addHome 26 = .ok (.iadd, 1) := by decide +kernel
theorem dX3_addHome_27 : decode cX3_addHome 27 = .ok (.putfield 60, 3) := by decide +kernel
theorem dX3_addHome_30 : decode cX3_addHome 30 = .ok (.aload_n 0, 1) := by decide +kernel
theorem dX3_addHome_31 : decode cX3_addHome 31 = .ok (.getfield 60, 3) := by decide +kernel
theorem dX3_addHome_34 : decode cX3_addHome 34 = .ok (.iconst 1, 1) := by decide +kernel
theorem dX3_addHome_35 : decode cX3_addHome 35 = .ok (.isub, 1) := by decide +kernel
theorem dX3_addHome_36 : decode cX3_addHome 36 = .ok (.ireturn, 1) := by decide +kernel
theorem dX3_addPerson_0 : decode cX3_addPerson 0 = .ok (.aload_n 0, 1) := by decide +kernel
theorem dX3_addPerson_1 : decode cX3_addPerson 1 = .ok (.aload_n 0, 1) := by decide +kernel
theorem dX3_addPerson_2 : decode cX3_addPerson 2 = .ok (.getfield 63, 3) := by decide +kernel
theorem dX3_addPerson_5 : decode cX3_addPerson 5 = .ok (.iload_n 1, 1) := by decide +kernel
theorem dX3_addPerson_6 : decode cX3_addPerson 6 = .ok (.invokevirtual 89, 3) := by decide +kernel
theorem dX3_addPerson_9 : decode cX3_addPerson 9 = .ok (.aload_n 0, 1) := by decide +kernel
theorem dX3_addPerson_10 : decode cX3_addPerson 10 = .ok (.getfield 30, 3) := by decide +kernel
theorem dX3_addPerson_13 : decode cX3_addPerson 13 = .ok (.aload_n 0, 1) := by decide +kernel
theorem dX3_addPerson_14 : decode cX3_addPerson 14 = .ok (.getfield 63, 3) := by decide +kernel
theorem dX3_addPerson_17 : decode cX3_addPerson 17 = .ok (.iload_n 2, 1) := by decide +kernel
theorem dX3_addPerson_18 : decode cX3_addPerson 18 = .ok (.iastore, 1) := by decide +kernel
theorem dX3_addPerson_19 : decode cX3_addPerson 19 = .ok (.aload_n 0, 1) := by decide +kernel
theorem dX3_addPerson_20 : decode cX3_addPerson 20 = .ok (.dup, 1) := by decide +kernel
theorem dX3_addPerson_21 : decode cX3_addPerson 21 = .ok (.getfield 63, 3) := by decide +kernel
theorem dX3_addPerson_24 : decode cX3_addPerson 24 = .ok (.iconst 1, 1) := by decide +kernel
theorem dX3_addPerson_25 : decode cX3_addPerson 25 = .ok (.iadd, 1) := by decide +kernel
theorem dX3_addPerson_26 : decode cX3_addPerson 26 = .ok (.putfield 63, 3) := by decide +kernel
theorem dX3_addPerson_29 : decode cX3_addPerson 29 = .ok (.aload_n 0, 1) := by decide +kernel
theorem dX3_addPerson_30 : decode cX3_addPerson 30 = .ok (.getfield 63, 3) := by decide +kernel
theorem dX3_addPerson_33 : decode cX3_addPerson 33 = .ok (.iconst 1, 1) := by decide +kernel
theorem dX3_addPerson_34 : decode cX3_addPerson 34 = .ok (.isub, 1) := by decide +kernel
theorem dX3_addPerson_35 : decode cX3_addPerson 35 = .ok (.ireturn, 1) := by decide +kernel
theorem dX3_setKind_0 : decode cX3_setKind 0 = .ok (.aload_n 0, 1) := by decide +kernel
theorem dX3_setKind_1 : decode cX3_setKind 1 = .ok (.getfield 24, 3) := by decide +kernel
theorem dX3_setKind_4 : decode cX3_setKind 4 = .ok (.iload_n 1, 1) := by decide +kernel
theorem dX3_setKind_5 : decode cX3_setKind 5 = .ok (.iload_n 2, 1) := by decide +kernel
theorem dX3_setKind_6 : decode cX3_setKind 6 = .ok (.bipush 10, 2) := by decide +kernel
theorem dX3_setKind_8 : decode cX3_setKind 8 = .ok (.idiv, 1) := by decide +kernel
theorem dX3_setKind_9 : decode cX3_setKind 9 = .ok (.iastore, 1) := by decide +kernel
theorem dX3_setKind_10 : decode cX3_setKind 10 = .ok (.aload_n 0, 1) := by decide +kernel
theorem dX3_setKind_11 : decode cX3_setKind 11 = .ok (.getfield 27, 3) := by decide +kernel
theorem dX3_setKind_14 : decode cX3_setKind 14 = .ok (.iload_n 1, 1) := by decide +kernel
theorem dX3_setKind_15 : decode cX3_setKind 15 = .ok (.iload_n 2, 1) := by decide +kernel
theorem dX3_setKind_16 : decode cX3_setKind 16 = .ok (.bipush 10, 2) := by decide +kernel
theorem dX3_setKind_18 : decode cX3_setKind 18 = .ok (.irem, 1) := by decide +kernel
theorem dX3_setKind_19 : decode cX3_setKind 19 = .ok (.iastore, 1) := by decide +kernel
theorem dX3_setKind_20 : decode cX3_setKind 20 = .ok (.return_, 1) := by decide +kernel
theorem dX3_addBytes_0 : decode cX3_addBytes 0 = .ok (.iconst 0, 1) := by decide +kernel
theorem dX3_addBytes_1 : decode cX3_addBytes 1 = .ok (.istore 4, 2) := by decide +kernel
theorem dX3_addBytes_3 : decode cX3_addBytes 3 = .ok (.iload 4, 2) := by decide +kernel
theorem dX3_addBytes_5 : decode cX3_addBytes 5 = .ok (.iload_n 3, 1) := by decide +kernel
theorem dX3_addBytes_6 : decode cX3_addBytes 6 = .ok (.if_icmp .ge 37, 3) := by decide +kernel
theorem dX3_addBytes_9 : decode cX3_addBytes 9 = .ok (.aload_n 0, 1) := by decide +kernel
theorem dX3_addBytes_10 : decode cX3_addBytes 10 = .ok (.getfield 37, 3) := by decide +kernel
theorem dX3_addBytes_13 : decode cX3_addBytes 13 = .ok (.aload_n 0, 1) := by decide +kernel
theorem dX3_addBytes_14 : decode cX3_addBytes 14 = .ok (.getfield 69, 3) := by decide +kernel
theorem dX3_addBytes_17 : decode cX3_addBytes 17 = .ok (.lload_n 1, 1) := by decide +kernel
theorem dX3_addBytes_18 : decode cX3_addBytes 18 = .ok (.bipush 8, 2) := by decide +kernel
theorem dX3_addBytes_20 : decode cX3_addBytes 20 = .ok (.iload 4, 2) := by decide +kernel
theorem dX3_addBytes_22 : decode cX3_addBytes 22 = .ok (.imul, 1) := by decide +kernel
theorem dX3_addBytes_23 : decode cX3_addBytes 23 = .ok (.lushr, 1) := by decide +kernel
theorem dX3_addBytes_24 : decode cX3_addBytes 24 = .ok (.l2i, 1) := by decide +kernel
theorem dX3_addBytes_25 : decode cX3_addBytes 25 = .ok (.i2b, 1) := by decide +kernel
theorem dX3_addBytes_26 : decode cX3_addBytes 26 = .ok (.bastore, 1) := by decide +kernel
theorem dX3_addBytes_27 : decode cX3_addBytes 27 = .ok (.aload_n 0, 1) := by decide +kernel
theorem dX3_addBytes_28 : decode cX3_addBytes 28 = .ok (.dup, 1) := by decide +kernel
theorem dX3_addBytes_29 : decode cX3_addBytes 29 = .ok (.getfield 69, 3) := by decide +kernel
theorem dX3_addBytes_32 : decode cX3_addBytes 32 = .ok (.iconst 1, 1) := by decide +kernel
theorem dX3_addBytes_33 : decode cX3_addBytes 33 = .ok (.iadd, 1) := by decide +kernel
theorem dX3_addBytes_34 : decode cX3_addBytes 34 = .ok (.putfield 69, 3) := by decide +kernel
theorem dX3_addBytes_37 : decode cX3_addBytes 37 = .ok (.iinc 4 1, 3) := by decide +kernel
theorem dX3_addBytes_40 : decode cX3_addBytes 40 = .ok (.goto (-37), 3) := by decide +kernel
theorem dX3_addBytes_43 : decode cX3_addBytes 43 = .ok (.return_, 1) := by decide +kernel
theorem dX3_homesOn_0 : decode cX3_homesOn 0 = .ok (.iconst 0, 1) := by decide +kernel
theorem dX3_homesOn_1 : decode cX3_homesOn 1 = .ok (.istore_n 2, 1) := by decide +kernel
theorem dX3_homesOn_2 : decode cX3_homesOn 2 = .ok (.iconst 0, 1) := by decide +kernel
theorem dX3_homesOn_3 : decode cX3_homesOn 3 = .ok (.istore_n 3, 1) := by decide +kernel
theorem dX3_homesOn_4 : decode cX3_homesOn 4 = .ok (.iload_n 3, 1) := by decide +kernel
theorem dX3_homesOn_5 : decode cX3_homesOn 5 = .ok (.aload_n 0, 1) := by decide +kernel
theorem dX3_homesOn_6 : decode cX3_homesOn 6 = .ok (.getfield 60, 3) := by decide +kernel
theorem dX3_homesOn_9 : decode cX3_homesOn 9 = .ok (.if_icmp .ge 25, 3) := by decide +kernel
theorem dX3_homesOn_12 : decode cX3_homesOn 12 = .ok (.aload_n 0, 1) := by decide +kernel
theorem dX3_homesOn_13 : decode cX3_homesOn 13 = .ok (.getfield 18, 3) := by decide +kernel
theorem dX3_homesOn_16 : decode cX3_homesOn 16 = .ok (.iload_n 3, 1) := by decide +kernel
theorem dX3_homesOn_17 : decode cX3_homesOn 17 = .ok (.iaload, 1) := by decide +kernel
theorem dX3_homesOn_18 : decode cX3_homesOn 18 = .ok (.iload_n 1, 1) := by decide +kernel
theorem dX3_homesOn_19 : decode cX3_homesOn 19 = .ok (.if_icmp .ne 9, 3) := by decide +kernel
theorem dX3_homesOn_22 : decode cX3_homesOn 22 = .ok (.iload_n 2, 1) := by decide +kernel
theorem dX3_homesOn_23 : decode cX3_homesOn 23 = .ok (.iconst 1, 1) := by decide +kernel
theorem dX3_homesOn_24 : decode cX3_homesOn 24 = .ok (.iload_n 3, 1) := by decide +kernel
theorem dX3_homesOn_25 : decode cX3_homesOn 25 = .ok (.ishl, 1) := by decide +kernel
theorem dX3_homesOn_26 : decode cX3_homesOn 26 = .ok (.ior, 1) := by decide +kernel
theorem dX3_homesOn_27 : decode cX3_homesOn 27 = .ok (.istore_n 2, 1) := by decide +kernel
theorem dX3_homesOn_28 : decode cX3_homesOn 28 = .ok (.iinc 3 1, 3) := by decide +kernel
theorem dX3_homesOn_31 : decode cX3_homesOn 31 = .ok (.goto (-27), 3) := by decide +kernel
theorem dX3_homesOn_34 : decode cX3_homesOn 34 = .ok (.iload_n 2, 1) := by decide +kernel
theorem dX3_homesOn_35 : decode cX3_homesOn 35 = .ok (.ireturn, 1) := by decide +kernel
theorem dX3_peopleIn_0 : decode cX3_peopleIn 0 = .ok (.iconst 0, 1) := by decide +kernel
theorem dX3_peopleIn_1 : decode cX3_peopleIn 1 = .ok (.istore_n 2, 1) := by decide +kernel
theorem dX3_peopleIn_2 : decode cX3_peopleIn 2 = .ok (.iconst 0, 1) := by decide +kernel
theorem dX3_peopleIn_3 : decode cX3_peopleIn 3 = .ok (.istore_n 3, 1) := by decide +kernel
theorem dX3_peopleIn_4 : decode cX3_peopleIn 4 = .ok (.iload_n 3, 1) := by decide +kernel
theorem dX3_peopleIn_5 : decode cX3_peopleIn 5 = .ok (.aload_n 0, 1) := by decide +kernel
theorem dX3_peopleIn_6 : decode cX3_peopleIn 6 = .ok (.getfield 63, 3) := by decide +kernel
theorem dX3_peopleIn_9 : decode cX3_peopleIn 9 = .ok (.if_icmp .ge 25, 3) := by decide +kernel
theorem dX3_peopleIn_12 : decode cX3_peopleIn 12 = .ok (.aload_n 0, 1) := by decide +kernel
theorem dX3_peopleIn_13 : decode cX3_peopleIn 13 = .ok (.getfield 30, 3) := by decide +kernel
theorem dX3_peopleIn_16 : decode cX3_peopleIn 16 = .ok (.iload_n 3, 1) := by decide +kernel
theorem dX3_peopleIn_17 : decode cX3_peopleIn 17 = .ok (.iaload, 1) := by decide +kernel
theorem dX3_peopleIn_18 : decode cX3_peopleIn 18 = .ok (.iload_n 1, 1) := by decide +kernel
theorem dX3_peopleIn_19 : decode cX3_peopleIn 19 = .ok (.if_icmp .ne 9, 3) := by decide +kernel
theorem dX3_peopleIn_22 : decode cX3_peopleIn 22 = .ok (.iload_n 2, 1) := by decide +kernel
theorem dX3_peopleIn_23 : decode cX3_peopleIn 23 = .ok (.iconst 1, 1) := by decide +kernel
theorem dX3_peopleIn_24 : decode cX3_peopleIn 24 = .ok (.iload_n 3, 1) := by decide +kernel
theorem dX3_peopleIn_25 : decode cX3_peopleIn 25 = .ok (.ishl, 1) := by decide +kernel
theorem dX3_peopleIn_26 : decode cX3_peopleIn 26 = .ok (.ior, 1) := by decide +kernel
theorem dX3_peopleIn_27 : decode cX3_peopleIn 27 = .ok (.istore_n 2, 1) := by decide +kernel
theorem dX3_peopleIn_28 : decode cX3_peopleIn 28 = .ok (.iinc 3 1, 3) := by decide +kernel
theorem dX3_peopleIn_31 : decode cX3_peopleIn 31 = .ok (.goto (-27), 3) := by decide +kernel
theorem dX3_peopleIn_34 : decode cX3_peopleIn 34 = .ok (.iload_n 2, 1) := by decide +kernel
theorem dX3_peopleIn_35 : decode cX3_peopleIn 35 = .ok (.ireturn, 1) := by decide +kernel
theorem dX3_markOf_0 : decode cX3_markOf 0 = .ok (.aload_n 0, 1) := by decide +kernel
theorem dX3_markOf_1 : decode cX3_markOf 1 = .ok (.getfield 9, 3) := by decide +kernel
theorem dX3_markOf_4 : decode cX3_markOf 4 = .ok (.iload_n 1, 1) := by decide +kernel
theorem dX3_markOf_5 : decode cX3_markOf 5 = .ok (.iaload, 1) := by decide +kernel
theorem dX3_markOf_6 : decode cX3_markOf 6 = .ok (.istore_n 3, 1) := by decide +kernel
theorem dX3_markOf_7 : decode cX3_markOf 7 = .ok (.iload_n 3, 1) := by decide +kernel
theorem dX3_markOf_8 : decode cX3_markOf 8 = .ok (.iconst 1, 1) := by decide +kernel
theorem dX3_markOf_9 : decode cX3_markOf 9 = .ok (.if_icmp .ge 7, 3) := by decide +kernel
theorem dX3_markOf_12 : decode cX3_markOf 12 = .ok (.iconst 0, 1) := by decide +kernel
theorem dX3_markOf_13 : decode cX3_markOf 13 = .ok (.goto 20, 3) := by decide +kernel
theorem dX3_markOf_16 : decode cX3_markOf 16 = .ok (.iload_n 2, 1) := by decide +kernel
theorem dX3_markOf_17 : decode cX3_markOf 17 = .ok (.aload_n 0, 1) := by decide +kernel
theorem dX3_markOf_18 : decode cX3_markOf 18 = .ok (.getfield 15, 3) := by decide +kernel
theorem dX3_markOf_21 : decode cX3_markOf 21 = .ok (.iload_n 1, 1) := by decide +kernel
theorem dX3_markOf_22 : decode cX3_markOf 22 = .ok (.iaload, 1) := by decide +kernel
theorem dX3_markOf_23 : decode cX3_markOf 23 = .ok (.iadd, 1) := by decide +kernel
theorem dX3_markOf_24 : decode cX3_markOf 24 = .ok (.iload_n 3, 1) := by decide +kernel
theorem dX3_markOf_25 : decode cX3_markOf 25 = .ok (.invokestatic 93, 3) := by decide +kernel
theorem dX3_markOf_28 : decode cX3_markOf 28 = .ok (.bipush 60, 2) := by decide +kernel
theorem dX3_markOf_30 : decode cX3_markOf 30 = .ok (.imul, 1) := by decide +kernel
theorem dX3_markOf_31 : decode cX3_markOf 31 = .ok (.iload_n 3, 1) := by decide +kernel
theorem dX3_markOf_32 : decode cX3_markOf 32 = .ok (.idiv, 1) := by decide +kernel
theorem dX3_markOf_33 : decode cX3_markOf 33 = .ok (.ireturn, 1) := by decide +kernel
theorem dX3_apart_0 : decode cX3_apart 0 = .ok (.aload_n 0, 1) := by decide +kernel
theorem dX3_apart_1 : decode cX3_apart 1 = .ok (.iload_n 1, 1) := by decide +kernel
theorem dX3_apart_2 : decode cX3_apart 2 = .ok (.iload_n 3, 1) := by decide +kernel
theorem dX3_apart_3 : decode cX3_apart 3 = .ok (.invokevirtual 97, 3) := by decide +kernel
theorem dX3_apart_6 : decode cX3_apart 6 = .ok (.aload_n 0, 1) := by decide +kernel
theorem dX3_apart_7 : decode cX3_apart 7 = .ok (.iload_n 2, 1) := by decide +kernel
theorem dX3_apart_8 : decode cX3_apart 8 = .ok (.iload_n 3, 1) := by decide +kernel
theorem dX3_apart_9 : decode cX3_apart 9 = .ok (.invokevirtual 97, 3) := by decide +kernel
theorem dX3_apart_12 : decode cX3_apart 12 = .ok (.isub, 1) := by decide +kernel
theorem dX3_apart_13 : decode cX3_apart 13 = .ok (.invokestatic 100, 3) := by decide +kernel
theorem dX3_apart_16 : decode cX3_apart 16 = .ok (.istore 4, 2) := by decide +kernel
theorem dX3_apart_18 : decode cX3_apart 18 = .ok (.iload 4, 2) := by decide +kernel
theorem dX3_apart_20 : decode cX3_apart 20 = .ok (.bipush 60, 2) := by decide +kernel
theorem dX3_apart_22 : decode cX3_apart 22 = .ok (.iload 4, 2) := by decide +kernel
theorem dX3_apart_24 : decode cX3_apart 24 = .ok (.isub, 1) := by decide +kernel
theorem dX3_apart_25 : decode cX3_apart 25 = .ok (.invokestatic 106, 3) := by decide +kernel
theorem dX3_apart_28 : decode cX3_apart 28 = .ok (.ireturn, 1) := by decide +kernel
theorem dX3_allMeet_0 : decode cX3_allMeet 0 = .ok (.aload_n 0, 1) := by decide +kernel
theorem dX3_allMeet_1 : decode cX3_allMeet 1 = .ok (.iconst 0, 1) := by decide +kernel
theorem dX3_allMeet_2 : decode cX3_allMeet 2 = .ok (.iload_n 1, 1) := by decide +kernel
theorem dX3_allMeet_3 : decode cX3_allMeet 3 = .ok (.invokevirtual 97, 3) := by decide +kernel
theorem dX3_allMeet_6 : decode cX3_allMeet 6 = .ok (.istore_n 2, 1) := by decide +kernel
theorem dX3_allMeet_7 : decode cX3_allMeet 7 = .ok (.iconst 1, 1) := by decide +kernel
theorem dX3_allMeet_8 : decode cX3_allMeet 8 = .ok (.istore_n 3, 1) := by decide +kernel
theorem dX3_allMeet_9 : decode cX3_allMeet 9 = .ok (.iload_n 3, 1) := by decide +kernel
theorem dX3_allMeet_10 : decode cX3_allMeet 10 = .ok (.aload_n 0, 1) := by decide +kernel
theorem dX3_allMeet_11 : decode cX3_allMeet 11 = .ok (.getfield 51, 3) := by decide +kernel
theorem dX3_allMeet_14 : decode cX3_allMeet 14 = .ok (.if_icmp .ge 21, 3) := by decide +kernel
theorem dX3_allMeet_17 : decode cX3_allMeet 17 = .ok (.aload_n 0, 1) := by decide +kernel
theorem dX3_allMeet_18 : decode cX3_allMeet 18 = .ok (.iload_n 3, 1) := by decide +kernel
theorem dX3_allMeet_19 : decode cX3_allMeet 19 = .ok (.iload_n 1, 1) := by decide +kernel
theorem dX3_allMeet_20 : decode cX3_allMeet 20 = .ok (.invokevirtual 97, 3) := by decide +kernel
theorem dX3_allMeet_23 : decode cX3_allMeet 23 = .ok (.iload_n 2, 1) := by decide +kernel
theorem dX3_allMeet_24 : decode cX3_allMeet 24 = .ok (.if_icmp .eq 5, 3) := by decide +kernel
theorem dX3_allMeet_27 : decode cX3_allMeet 27 = .ok (.iconst 0, 1) := by decide +kernel
theorem dX3_allMeet_28 : decode cX3_allMeet 28 = .ok (.ireturn, 1) := by decide +kernel
theorem dX3_allMeet_29 : decode cX3_allMeet 29 = .ok (.iinc 3 1, 3) := by decide +kernel
theorem dX3_allMeet_32 : decode cX3_allMeet 32 = .ok (.goto (-23), 3) := by decide +kernel
theorem dX3_allMeet_35 : decode cX3_allMeet 35 = .ok (.iconst 1, 1) := by decide +kernel
theorem dX3_allMeet_36 : decode cX3_allMeet 36 = .ok (.ireturn, 1) := by decide +kernel
theorem dX3_leapLaw_0 : decode cX3_leapLaw 0 = .ok (.aload_n 0, 1) := by decide +kernel
theorem dX3_leapLaw_1 : decode cX3_leapLaw 1 = .ok (.getfield 47, 3) := by decide +kernel
theorem dX3_leapLaw_4 : decode cX3_leapLaw 4 = .ok (.iconst 0, 1) := by decide +kernel
theorem dX3_leapLaw_5 : decode cX3_leapLaw 5 = .ok (.aaload, 1) := by decide +kernel
theorem dX3_leapLaw_6 : decode cX3_leapLaw 6 = .ok (.astore 4, 2) := by decide +kernel
theorem dX3_leapLaw_8 : decode cX3_leapLaw 8 = .ok (.aload 4, 2) := by decide +kernel
theorem dX3_leapLaw_10 : decode cX3_leapLaw 10 = .ok (.getfield 78, 3) := by decide +kernel
theorem dX3_leapLaw_13 : decode cX3_leapLaw 13 = .ok (.ifCond .le 14, 3) := by decide +kernel
theorem dX3_leapLaw_16 : decode cX3_leapLaw 16 = .ok (.aload 4, 2) := by decide +kernel
theorem dX3_leapLaw_18 : decode cX3_leapLaw 18 = .ok (.iload_n 1, 1) := by decide +kernel
theorem dX3_leapLaw_19 : decode cX3_leapLaw 19 = .ok (.iload_n 2, 1) := by decide +kernel
theorem dX3_leapLaw_20 : decode cX3_leapLaw 20 = .ok (.iload_n 3, 1) := by decide +kernel
theorem dX3_leapLaw_21 : decode cX3_leapLaw 21 = .ok (.invokevirtual 109, 3) := by decide +kernel
theorem dX3_leapLaw_24 : decode cX3_leapLaw 24 = .ok (.goto 6, 3) := by decide +kernel
theorem dX3_leapLaw_27 : decode cX3_leapLaw 27 = .ok (.iload_n 1, 1) := by decide +kernel
theorem dX3_leapLaw_28 : decode cX3_leapLaw 28 = .ok (.iconst 3, 1) := by decide +kernel
theorem dX3_leapLaw_29 : decode cX3_leapLaw 29 = .ok (.idiv, 1) := by decide +kernel
theorem dX3_leapLaw_30 : decode cX3_leapLaw 30 = .ok (.iconst 0, 1) := by decide +kernel
theorem dX3_leapLaw_31 : decode cX3_leapLaw 31 = .ok (.bipush 30, 2) := by decide +kernel
theorem dX3_leapLaw_33 : decode cX3_leapLaw 33 = .ok (.invokestatic 113, 3) := by decide +kernel
theorem dX3_leapLaw_36 : decode cX3_leapLaw 36 = .ok (.ireturn, 1) := by decide +kernel
theorem dX3_worthLaw_0 : decode cX3_worthLaw 0 = .ok (.aload_n 0, 1) := by decide +kernel
theorem dX3_worthLaw_1 : decode cX3_worthLaw 1 = .ok (.getfield 47, 3) := by decide +kernel
theorem dX3_worthLaw_4 : decode cX3_worthLaw 4 = .ok (.iconst 1, 1) := by decide +kernel
theorem dX3_worthLaw_5 : decode cX3_worthLaw 5 = .ok (.aaload, 1) := by decide +kernel
theorem dX3_worthLaw_6 : decode cX3_worthLaw 6 = .ok (.astore 4, 2) := by decide +kernel
theorem dX3_worthLaw_8 : decode cX3_worthLaw 8 = .ok (.aload 4, 2) := by decide +kernel
theorem dX3_worthLaw_10 : decode cX3_worthLaw 10 = .ok (.getfield 78, 3) := by decide +kernel
theorem dX3_worthLaw_13 : decode cX3_worthLaw 13 = .ok (.ifCond .le 14, 3) := by decide +kernel
theorem dX3_worthLaw_16 : decode cX3_worthLaw 16 = .ok (.aload 4, 2) := by decide +kernel
theorem dX3_worthLaw_18 : decode cX3_worthLaw 18 = .ok (.iload_n 1, 1) := by decide +kernel
theorem dX3_worthLaw_19 : decode cX3_worthLaw 19 = .ok (.iload_n 2, 1) := by decide +kernel
theorem dX3_worthLaw_20 : decode cX3_worthLaw 20 = .ok (.iload_n 3, 1) := by decide +kernel
theorem dX3_worthLaw_21 : decode cX3_worthLaw 21 = .ok (.invokevirtual 109, 3) := by decide +kernel
theorem dX3_worthLaw_24 : decode cX3_worthLaw 24 = .ok (.goto 9, 3) := by decide +kernel
theorem dX3_worthLaw_27 : decode cX3_worthLaw 27 = .ok (.bipush 10, 2) := by decide +kernel
theorem dX3_worthLaw_29 : decode cX3_worthLaw 29 = .ok (.iload_n 1, 1) := by decide +kernel
theorem dX3_worthLaw_30 : decode cX3_worthLaw 30 = .ok (.imul, 1) := by decide +kernel
theorem dX3_worthLaw_31 : decode cX3_worthLaw 31 = .ok (.iload_n 2, 1) := by decide +kernel
theorem dX3_worthLaw_32 : decode cX3_worthLaw 32 = .ok (.isub, 1) := by decide +kernel
theorem dX3_worthLaw_33 : decode cX3_worthLaw 33 = .ok (.sipush (-999), 3) := by decide +kernel
theorem dX3_worthLaw_36 : decode cX3_worthLaw 36 = .ok (.sipush 999, 3) := by decide +kernel
theorem dX3_worthLaw_39 : decode cX3_worthLaw 39 = .ok (.invokestatic 113, 3) := by decide +kernel
theorem dX3_worthLaw_42 : decode cX3_worthLaw 42 = .ok (.ireturn, 1) := by decide +kernel
theorem dX3_worth_0 : decode cX3_worth 0 = .ok (.aload_n 0, 1) := by decide +kernel
theorem dX3_worth_1 : decode cX3_worth 1 = .ok (.aload_n 0, 1) := by decide +kernel
theorem dX3_worth_2 : decode cX3_worth 2 = .ok (.getfield 21, 3) := by decide +kernel
theorem dX3_worth_5 : decode cX3_worth 5 = .ok (.iload_n 1, 1) := by decide +kernel
theorem dX3_worth_6 : decode cX3_worth 6 = .ok (.iaload, 1) := by decide +kernel
theorem dX3_worth_7 : decode cX3_worth 7 = .ok (.aload_n 0, 1) := by decide +kernel
theorem dX3_worth_8 : decode cX3_worth 8 = .ok (.aload_n 0, 1) := by decide +kernel
theorem dX3_worth_9 : decode cX3_worth 9 = .ok (.getfield 18, 3) := by decide +kernel
theorem dX3_worth_12 : decode cX3_worth 12 = .ok (.iload_n 1, 1) := by decide +kernel
theorem dX3_worth_13 : decode cX3_worth 13 = .ok (.iaload, 1) := by decide +kernel
theorem dX3_worth_14 : decode cX3_worth 14 = .ok (.iload_n 2, 1) := by decide +kernel
theorem dX3_worth_15 : decode cX3_worth 15 = .ok (.invokevirtual 97, 3) := by decide +kernel
theorem dX3_worth_18 : decode cX3_worth 18 = .ok (.iload_n 1, 1) := by decide +kernel
theorem dX3_worth_19 : decode cX3_worth 19 = .ok (.invokevirtual 116, 3) := by decide +kernel
theorem dX3_worth_22 : decode cX3_worth 22 = .ok (.ireturn, 1) := by decide +kernel
theorem dX3_leaps_0 : decode cX3_leaps 0 = .ok (.aload_n 0, 1) := by decide +kernel
theorem dX3_leaps_1 : decode cX3_leaps 1 = .ok (.getfield 27, 3) := by decide +kernel
theorem dX3_leaps_4 : decode cX3_leaps 4 = .ok (.iload_n 1, 1) := by decide +kernel
theorem dX3_leaps_5 : decode cX3_leaps 5 = .ok (.iaload, 1) := by decide +kernel
theorem dX3_leaps_6 : decode cX3_leaps 6 = .ok (.istore_n 3, 1) := by decide +kernel
theorem dX3_leaps_7 : decode cX3_leaps 7 = .ok (.aload_n 0, 1) := by decide +kernel
theorem dX3_leaps_8 : decode cX3_leaps 8 = .ok (.iload_n 3, 1) := by decide +kernel
theorem dX3_leaps_9 : decode cX3_leaps 9 = .ok (.iload_n 2, 1) := by decide +kernel
theorem dX3_leaps_10 : decode cX3_leaps 10 = .ok (.aload_n 0, 1) := by decide +kernel
theorem dX3_leaps_11 : decode cX3_leaps 11 = .ok (.getfield 60, 3) := by decide +kernel
theorem dX3_leaps_14 : decode cX3_leaps 14 = .ok (.invokevirtual 119, 3) := by decide +kernel
theorem dX3_leaps_17 : decode cX3_leaps 17 = .ok (.istore 4, 2) := by decide +kernel
theorem dX3_leaps_19 : decode cX3_leaps 19 = .ok (.aload_n 0, 1) := by decide +kernel
theorem dX3_leaps_20 : decode cX3_leaps 20 = .ok (.getfield 24, 3) := by decide +kernel
theorem dX3_leaps_23 : decode cX3_leaps 23 = .ok (.iload_n 1, 1) := by decide +kernel
theorem dX3_leaps_24 : decode cX3_leaps 24 = .ok (.iaload, 1) := by decide +kernel
theorem dX3_leaps_25 : decode cX3_leaps 25 = .ok (.tableswitch 82 1 6 #[39, 44, 49, 65, 72, 79], 39) := by decide +kernel
theorem dX3_leaps_64 : decode cX3_leaps 64 = .ok (.iload 4, 2) := by decide +kernel
theorem dX3_leaps_66 : decode cX3_leaps 66 = .ok (.iconst 1, 1) := by decide +kernel
theorem dX3_leaps_67 : decode cX3_leaps 67 = .ok (.iadd, 1) := by decide +kernel
theorem dX3_leaps_68 : decode cX3_leaps 68 = .ok (.ireturn, 1) := by decide +kernel
theorem dX3_leaps_69 : decode cX3_leaps 69 = .ok (.iload 4, 2) := by decide +kernel
theorem dX3_leaps_71 : decode cX3_leaps 71 = .ok (.iconst 2, 1) := by decide +kernel
theorem dX3_leaps_72 : decode cX3_leaps 72 = .ok (.idiv, 1) := by decide +kernel
theorem dX3_leaps_73 : decode cX3_leaps 73 = .ok (.ireturn, 1) := by decide +kernel
theorem dX3_leaps_74 : decode cX3_leaps 74 = .ok (.iload_n 2, 1) := by decide +kernel
theorem dX3_leaps_75 : decode cX3_leaps 75 = .ok (.iconst 2, 1) := by decide +kernel
theorem dX3_leaps_76 : decode cX3_leaps 76 = .ok (.irem, 1) := by decide +kernel
theorem dX3_leaps_77 : decode cX3_leaps 77 = .ok (.ifCond .ne 10, 3) := by decide +kernel
theorem dX3_leaps_80 : decode cX3_leaps 80 = .ok (.iload 4, 2) := by decide +kernel
theorem dX3_leaps_82 : decode cX3_leaps 82 = .ok (.iconst 2, 1) := by decide +kernel
theorem dX3_leaps_83 : decode cX3_leaps 83 = .ok (.iadd, 1) := by decide +kernel
theorem dX3_leaps_84 : decode cX3_leaps 84 = .ok (.goto 5, 3) := by decide +kernel
theorem dX3_leaps_87 : decode cX3_leaps 87 = .ok (.iload 4, 2) := by decide +kernel
theorem dX3_leaps_89 : decode cX3_leaps 89 = .ok (.ireturn, 1) := by decide +kernel
theorem dX3_leaps_90 : decode cX3_leaps 90 = .ok (.iload 4, 2) := by decide +kernel
theorem dX3_leaps_92 : decode cX3_leaps 92 = .ok (.iconst 1, 1) := by decide +kernel
theorem dX3_leaps_93 : decode cX3_leaps 93 = .ok (.iadd, 1) := by decide +kernel
theorem dX3_leaps_94 : decode cX3_leaps 94 = .ok (.iload_n 3, 1) := by decide +kernel
theorem dX3_leaps_95 : decode cX3_leaps 95 = .ok (.iadd, 1) := by decide +kernel
theorem dX3_leaps_96 : decode cX3_leaps 96 = .ok (.ireturn, 1) := by decide +kernel
theorem dX3_leaps_97 : decode cX3_leaps 97 = .ok (.iload 4, 2) := by decide +kernel
theorem dX3_leaps_99 : decode cX3_leaps 99 = .ok (.iconst 2, 1) := by decide +kernel
theorem dX3_leaps_100 : decode cX3_leaps 100 = .ok (.idiv, 1) := by decide +kernel
theorem dX3_leaps_101 : decode cX3_leaps 101 = .ok (.iload_n 3, 1) := by decide +kernel
theorem dX3_leaps_102 : decode cX3_leaps 102 = .ok (.iadd, 1) := by decide +kernel
theorem dX3_leaps_103 : decode cX3_leaps 103 = .ok (.ireturn, 1) := by decide +kernel
theorem dX3_leaps_104 : decode cX3_leaps 104 = .ok (.bipush 30, 2) := by decide +kernel
theorem dX3_leaps_106 : decode cX3_leaps 106 = .ok (.ireturn, 1) := by decide +kernel
theorem dX3_leaps_107 : decode cX3_leaps 107 = .ok (.iload 4, 2) := by decide +kernel
theorem dX3_leaps_109 : decode cX3_leaps 109 = .ok (.ireturn, 1) := by decide +kernel
theorem dX3_spans_0 : decode cX3_spans 0 = .ok (.aload_n 0, 1) := by decide +kernel
theorem dX3_spans_1 : decode cX3_spans 1 = .ok (.getfield 27, 3) := by decide +kernel
theorem dX3_spans_4 : decode cX3_spans 4 = .ok (.iload_n 1, 1) := by decide +kernel
theorem dX3_spans_5 : decode cX3_spans 5 = .ok (.iaload, 1) := by decide +kernel
theorem dX3_spans_6 : decode cX3_spans 6 = .ok (.istore_n 2, 1) := by decide +kernel
theorem dX3_spans_7 : decode cX3_spans 7 = .ok (.aload_n 0, 1) := by decide +kernel
theorem dX3_spans_8 : decode cX3_spans 8 = .ok (.getfield 24, 3) := by decide +kernel
theorem dX3_spans_11 : decode cX3_spans 11 = .ok (.iload_n 1, 1) := by decide +kernel
theorem dX3_spans_12 : decode cX3_spans 12 = .ok (.iaload, 1) := by decide +kernel
theorem dX3_spans_13 : decode cX3_spans 13 = .ok (.tableswitch 52 1 6 #[39, 45, 52, 39, 47, 49], 39) := by decide +kernel
theorem dX3_spans_52 : decode cX3_spans 52 = .ok (.iconst 1, 1) := by decide +kernel
theorem dX3_spans_53 : decode cX3_spans 53 = .ok (.iload_n 2, 1) := by decide +kernel
theorem dX3_spans_54 : decode cX3_spans 54 = .ok (.iconst 3, 1) := by decide +kernel
theorem dX3_spans_55 : decode cX3_spans 55 = .ok (.irem, 1) := by decide +kernel
theorem dX3_spans_56 : decode cX3_spans 56 = .ok (.iadd, 1) := by decide +kernel
theorem dX3_spans_57 : decode cX3_spans 57 = .ok (.ireturn, 1) := by decide +kernel
theorem dX3_spans_58 : decode cX3_spans 58 = .ok (.iconst 0, 1) := by decide +kernel
theorem dX3_spans_59 : decode cX3_spans 59 = .ok (.ireturn, 1) := by decide +kernel
theorem dX3_spans_60 : decode cX3_spans 60 = .ok (.iload_n 2, 1) := by decide +kernel
theorem dX3_spans_61 : decode cX3_spans 61 = .ok (.ireturn, 1) := by decide +kernel
theorem dX3_spans_62 : decode cX3_spans 62 = .ok (.bipush 9, 2) := by decide +kernel
theorem dX3_spans_64 : decode cX3_spans 64 = .ok (.ireturn, 1) := by decide +kernel
theorem dX3_spans_65 : decode cX3_spans 65 = .ok (.iconst 1, 1) := by decide +kernel
theorem dX3_spans_66 : decode cX3_spans 66 = .ok (.ireturn, 1) := by decide +kernel
theorem dX3_gets_0 : decode cX3_gets 0 = .ok (.aload_n 0, 1) := by decide +kernel
theorem dX3_gets_1 : decode cX3_gets 1 = .ok (.getfield 30, 3) := by decide +kernel
theorem dX3_gets_4 : decode cX3_gets 4 = .ok (.iload_n 1, 1) := by decide +kernel
theorem dX3_gets_5 : decode cX3_gets 5 = .ok (.iaload, 1) := by decide +kernel
theorem dX3_gets_6 : decode cX3_gets 6 = .ok (.istore 4, 2) := by decide +kernel
theorem dX3_gets_8 : decode cX3_gets 8 = .ok (.aload_n 0, 1) := by decide +kernel
theorem dX3_gets_9 : decode cX3_gets 9 = .ok (.getfield 21, 3) := by decide +kernel
theorem dX3_gets_12 : decode cX3_gets 12 = .ok (.iload 4, 2) := by decide +kernel
theorem dX3_gets_14 : decode cX3_gets 14 = .ok (.iaload, 1) := by decide +kernel
theorem dX3_gets_15 : decode cX3_gets 15 = .ok (.aload_n 0, 1) := by decide +kernel
theorem dX3_gets_16 : decode cX3_gets 16 = .ok (.getfield 21, 3) := by decide +kernel
theorem dX3_gets_19 : decode cX3_gets 19 = .ok (.iload_n 2, 1) := by decide +kernel
theorem dX3_gets_20 : decode cX3_gets 20 = .ok (.iaload, 1) := by decide +kernel
theorem dX3_gets_21 : decode cX3_gets 21 = .ok (.isub, 1) := by decide +kernel
theorem dX3_gets_22 : decode cX3_gets 22 = .ok (.invokestatic 100, 3) := by decide +kernel
theorem dX3_gets_25 : decode cX3_gets 25 = .ok (.aload_n 0, 1) := by decide +kernel
theorem dX3_gets_26 : decode cX3_gets 26 = .ok (.iload_n 1, 1) := by decide +kernel
theorem dX3_gets_27 : decode cX3_gets 27 = .ok (.invokevirtual 122, 3) := by decide +kernel
theorem dX3_gets_30 : decode cX3_gets 30 = .ok (.if_icmp .gt 34, 3) := by decide +kernel
theorem dX3_gets_33 : decode cX3_gets 33 = .ok (.aload_n 0, 1) := by decide +kernel
theorem dX3_gets_34 : decode cX3_gets 34 = .ok (.aload_n 0, 1) := by decide +kernel
theorem dX3_gets_35 : decode cX3_gets 35 = .ok (.getfield 18, 3) := by decide +kernel
theorem dX3_gets_38 : decode cX3_gets 38 = .ok (.iload 4, 2) := by decide +kernel
theorem dX3_gets_40 : decode cX3_gets 40 = .ok (.iaload, 1) := by decide +kernel
theorem dX3_gets_41 : decode cX3_gets 41 = .ok (.aload_n 0, 1) := by decide +kernel
theorem dX3_gets_42 : decode cX3_gets 42 = .ok (.getfield 18, 3) := by decide +kernel
theorem dX3_gets_45 : decode cX3_gets 45 = .ok (.iload_n 2, 1) := by decide +kernel
theorem dX3_gets_46 : decode cX3_gets 46 = .ok (.iaload, 1) := by decide +kernel
theorem dX3_gets_47 : decode cX3_gets 47 = .ok (.iload_n 3, 1) := by decide +kernel
theorem dX3_gets_48 : decode cX3_gets 48 = .ok (.invokevirtual 125, 3) := by decide +kernel
theorem dX3_gets_51 : decode cX3_gets 51 = .ok (.aload_n 0, 1) := by decide +kernel
theorem dX3_gets_52 : decode cX3_gets 52 = .ok (.iload_n 1, 1) := by decide +kernel
theorem dX3_gets_53 : decode cX3_gets 53 = .ok (.iload_n 3, 1) := by decide +kernel
theorem dX3_gets_54 : decode cX3_gets 54 = .ok (.invokevirtual 128, 3) := by decide +kernel
theorem dX3_gets_57 : decode cX3_gets 57 = .ok (.if_icmp .gt 7, 3) := by decide +kernel
theorem dX3_gets_60 : decode cX3_gets 60 = .ok (.iconst 1, 1) := by decide +kernel
theorem dX3_gets_61 : decode cX3_gets 61 = .ok (.goto 4, 3) := by decide +kernel
theorem dX3_gets_64 : decode cX3_gets 64 = .ok (.iconst 0, 1) := by decide +kernel
theorem dX3_gets_65 : decode cX3_gets 65 = .ok (.ireturn, 1) := by decide +kernel
theorem dX3_worthiest_0 : decode cX3_worthiest 0 = .ok (.iconst (-1), 1) := by decide +kernel
theorem dX3_worthiest_1 : decode cX3_worthiest 1 = .ok (.istore_n 3, 1) := by decide +kernel
theorem dX3_worthiest_2 : decode cX3_worthiest 2 = .ok (.iconst 0, 1) := by decide +kernel
theorem dX3_worthiest_3 : decode cX3_worthiest 3 = .ok (.istore 4, 2) := by decide +kernel
theorem dX3_worthiest_5 : decode cX3_worthiest 5 = .ok (.iconst 0, 1) := by decide +kernel
theorem dX3_worthiest_6 : decode cX3_worthiest 6 = .ok (.istore 5, 2) := by decide +kernel
theorem dX3_worthiest_8 : decode cX3_worthiest 8 = .ok (.iload 5, 2) := by decide +kernel
theorem dX3_worthiest_10 : decode cX3_worthiest 10 = .ok (.aload_n 0, 1) := by decide +kernel
theorem dX3_worthiest_11 : decode cX3_worthiest 11 = .ok (.getfield 60, 3) := by decide +kernel
theorem dX3_worthiest_14 : decode cX3_worthiest 14 = .ok (.if_icmp .ge 45, 3) := by decide +kernel
theorem dX3_worthiest_17 : decode cX3_worthiest 17 = .ok (.iload_n 1, 1) := by decide +kernel
theorem dX3_worthiest_18 : decode cX3_worthiest 18 = .ok (.iload 5, 2) := by decide +kernel
theorem dX3_worthiest_20 : decode cX3_worthiest 20 = .ok (.invokestatic 131, 3) := by decide +kernel
theorem dX3_worthiest_23 : decode cX3_worthiest 23 = .ok (.ifCond .eq 30, 3) := by decide +kernel
theorem dX3_worthiest_26 : decode cX3_worthiest 26 = .ok (.aload_n 0, 1) := by decide +kernel
theorem dX3_worthiest_27 : decode cX3_worthiest 27 = .ok (.iload 5, 2) := by decide +kernel
theorem dX3_worthiest_29 : decode cX3_worthiest 29 = .ok (.iload_n 2, 1) := by decide +kernel
theorem dX3_worthiest_30 : decode cX3_worthiest 30 = .ok (.invokevirtual 135, 3) := by decide +kernel
theorem dX3_worthiest_33 : decode cX3_worthiest 33 = .ok (.istore 6, 2) := by decide +kernel
theorem dX3_worthiest_35 : decode cX3_worthiest 35 = .ok (.iload_n 3, 1) := by decide +kernel
theorem dX3_worthiest_36 : decode cX3_worthiest 36 = .ok (.ifCond .lt 10, 3) := by decide +kernel
theorem dX3_worthiest_39 : decode cX3_worthiest 39 = .ok (.iload 6, 2) := by decide +kernel
theorem dX3_worthiest_41 : decode cX3_worthiest 41 = .ok (.iload 4, 2) := by decide +kernel
theorem dX3_worthiest_43 : decode cX3_worthiest 43 = .ok (.if_icmp .le 10, 3) := by decide +kernel
theorem dX3_worthiest_46 : decode cX3_worthiest 46 = .ok (.iload 5, 2) := by decide +kernel
theorem dX3_worthiest_48 : decode cX3_worthiest 48 = .ok (.istore_n 3, 1) := by decide +kernel
theorem dX3_worthiest_49 : decode cX3_worthiest 49 = .ok (.iload 6, 2) := by decide +kernel
theorem dX3_worthiest_51 : decode cX3_worthiest 51 = .ok (.istore 4, 2) := by decide +kernel
theorem dX3_worthiest_53 : decode cX3_worthiest 53 = .ok (.iinc 5 1, 3) := by decide +kernel
theorem dX3_worthiest_56 : decode cX3_worthiest 56 = .ok (.goto (-48), 3) := by decide +kernel
theorem dX3_worthiest_59 : decode cX3_worthiest 59 = .ok (.iload_n 3, 1) := by decide +kernel
theorem dX3_worthiest_60 : decode cX3_worthiest 60 = .ok (.iconst 0, 1) := by decide +kernel
theorem dX3_worthiest_61 : decode cX3_worthiest 61 = .ok (.invokestatic 138, 3) := by decide +kernel
theorem dX3_worthiest_64 : decode cX3_worthiest 64 = .ok (.ireturn, 1) := by decide +kernel
theorem dX3_draw_0 : decode cX3_draw 0 = .ok (.aload_n 0, 1) := by decide +kernel
theorem dX3_draw_1 : decode cX3_draw 1 = .ok (.aload_n 0, 1) := by decide +kernel
theorem dX3_draw_2 : decode cX3_draw 2 = .ok (.getfield 33, 3) := by decide +kernel
theorem dX3_draw_5 : decode cX3_draw 5 = .ok (.ldc 141, 2) := by decide +kernel
theorem dX3_draw_7 : decode cX3_draw 7 = .ok (.imul, 1) := by decide +kernel
theorem dX3_draw_8 : decode cX3_draw 8 = .ok (.sipush 12345, 3) := by decide +kernel
theorem dX3_draw_11 : decode cX3_draw 11 = .ok (.iadd, 1) := by decide +kernel
theorem dX3_draw_12 : decode cX3_draw 12 = .ok (.putfield 33, 3) := by decide +kernel
theorem dX3_draw_15 : decode cX3_draw 15 = .ok (.aload_n 0, 1) := by decide +kernel
theorem dX3_draw_16 : decode cX3_draw 16 = .ok (.getfield 33, 3) := by decide +kernel
theorem dX3_draw_19 : decode cX3_draw 19 = .ok (.bipush 8, 2) := by decide +kernel
theorem dX3_draw_21 : decode cX3_draw 21 = .ok (.iushr, 1) := by decide +kernel
theorem dX3_draw_22 : decode cX3_draw 22 = .ok (.ireturn, 1) := by decide +kernel
theorem dX3_jumpsByDraws_0 : decode cX3_jumpsByDraws 0 = .ok (.aload_n 0, 1) := by decide +kernel
theorem dX3_jumpsByDraws_1 : decode cX3_jumpsByDraws 1 = .ok (.getfield 63, 3) := by decide +kernel
theorem dX3_jumpsByDraws_4 : decode cX3_jumpsByDraws 4 = .ok (.ifCond .ne 5, 3) := by decide +kernel
theorem dX3_jumpsByDraws_7 : decode cX3_jumpsByDraws 7 = .ok (.iconst 0, 1) := by decide +kernel
theorem dX3_jumpsByDraws_8 : decode cX3_jumpsByDraws 8 = .ok (.ireturn, 1) := by decide +kernel
theorem dX3_jumpsByDraws_9 : decode cX3_jumpsByDraws 9 = .ok (.aload_n 0, 1) := by decide +kernel
theorem dX3_jumpsByDraws_10 : decode cX3_jumpsByDraws 10 = .ok (.invokevirtual 142, 3) := by decide +kernel
theorem dX3_jumpsByDraws_13 : decode cX3_jumpsByDraws 13 = .ok (.aload_n 0, 1) := by decide +kernel
theorem dX3_jumpsByDraws_14 : decode cX3_jumpsByDraws 14 = .ok (.getfield 63, 3) := by decide +kernel
theorem dX3_jumpsByDraws_17 : decode cX3_jumpsByDraws 17 = .ok (.invokestatic 93, 3) := by decide +kernel
theorem dX3_jumpsByDraws_20 : decode cX3_jumpsByDraws 20 = .ok (.istore_n 1, 1) := by decide +kernel
theorem dX3_jumpsByDraws_21 : decode cX3_jumpsByDraws 21 = .ok (.aload_n 0, 1) := by decide +kernel
theorem dX3_jumpsByDraws_22 : decode cX3_jumpsByDraws 22 = .ok (.invokevirtual 142, 3) := by decide +kernel
theorem dX3_jumpsByDraws_25 : decode cX3_jumpsByDraws 25 = .ok (.aload_n 0, 1) := by decide +kernel
theorem dX3_jumpsByDraws_26 : decode cX3_jumpsByDraws 26 = .ok (.getfield 60, 3) := by decide +kernel
theorem dX3_jumpsByDraws_29 : decode cX3_jumpsByDraws 29 = .ok (.invokestatic 93, 3) := by decide +kernel
theorem dX3_jumpsByDraws_32 : decode cX3_jumpsByDraws 32 = .ok (.istore_n 2, 1) := by decide +kernel
theorem dX3_jumpsByDraws_33 : decode cX3_jumpsByDraws 33 = .ok (.iload_n 2, 1) := by decide +kernel
theorem dX3_jumpsByDraws_34 : decode cX3_jumpsByDraws 34 = .ok (.aload_n 0, 1) := by decide +kernel
theorem dX3_jumpsByDraws_35 : decode cX3_jumpsByDraws 35 = .ok (.getfield 30, 3) := by decide +kernel
theorem dX3_jumpsByDraws_38 : decode cX3_jumpsByDraws 38 = .ok (.iload_n 1, 1) := by decide +kernel
theorem dX3_jumpsByDraws_39 : decode cX3_jumpsByDraws 39 = .ok (.iaload, 1) := by decide +kernel
theorem dX3_jumpsByDraws_40 : decode cX3_jumpsByDraws 40 = .ok (.if_icmp .eq 16, 3) := by decide +kernel
theorem dX3_jumpsByDraws_43 : decode cX3_jumpsByDraws 43 = .ok (.aload_n 0, 1) := by decide +kernel
theorem dX3_jumpsByDraws_44 : decode cX3_jumpsByDraws 44 = .ok (.iload_n 1, 1) := by decide +kernel
theorem dX3_jumpsByDraws_45 : decode cX3_jumpsByDraws 45 = .ok (.iload_n 2, 1) := by decide +kernel
theorem dX3_jumpsByDraws_46 : decode cX3_jumpsByDraws 46 = .ok (.aload_n 0, 1) := by decide +kernel
theorem dX3_jumpsByDraws_47 : decode cX3_jumpsByDraws 47 = .ok (.getfield 66, 3) := by decide +kernel
theorem dX3_jumpsByDraws_50 : decode cX3_jumpsByDraws 50 = .ok (.invokevirtual 146, 3) := by decide +kernel
theorem dX3_jumpsByDraws_53 : decode cX3_jumpsByDraws 53 = .ok (.ifCond .ne 5, 3) := by decide +kernel
theorem dX3_jumpsByDraws_56 : decode cX3_jumpsByDraws 56 = .ok (.iconst 0, 1) := by decide +kernel
theorem dX3_jumpsByDraws_57 : decode cX3_jumpsByDraws 57 = .ok (.ireturn, 1) := by decide +kernel
theorem dX3_jumpsByDraws_58 : decode cX3_jumpsByDraws 58 = .ok (.aload_n 0, 1) := by decide +kernel
theorem dX3_jumpsByDraws_59 : decode cX3_jumpsByDraws 59 = .ok (.getfield 30, 3) := by decide +kernel
theorem dX3_jumpsByDraws_62 : decode cX3_jumpsByDraws 62 = .ok (.iload_n 1, 1) := by decide +kernel
theorem dX3_jumpsByDraws_63 : decode cX3_jumpsByDraws 63 = .ok (.iload_n 2, 1) := by decide +kernel
theorem dX3_jumpsByDraws_64 : decode cX3_jumpsByDraws 64 = .ok (.iastore, 1) := by decide +kernel
theorem dX3_jumpsByDraws_65 : decode cX3_jumpsByDraws 65 = .ok (.iconst 1, 1) := by decide +kernel
theorem dX3_jumpsByDraws_66 : decode cX3_jumpsByDraws 66 = .ok (.ireturn, 1) := by decide +kernel
theorem dX3_marksAre_0 : decode cX3_marksAre 0 = .ok (.iconst 0, 1) := by decide +kernel
theorem dX3_marksAre_1 : decode cX3_marksAre 1 = .ok (.istore_n 3, 1) := by decide +kernel
theorem dX3_marksAre_2 : decode cX3_marksAre 2 = .ok (.iload_n 3, 1) := by decide +kernel
theorem dX3_marksAre_3 : decode cX3_marksAre 3 = .ok (.aload_n 2, 1) := by decide +kernel
theorem dX3_marksAre_4 : decode cX3_marksAre 4 = .ok (.getfield 149, 3) := by decide +kernel
theorem dX3_marksAre_7 : decode cX3_marksAre 7 = .ok (.if_icmp .ge 31, 3) := by decide +kernel
theorem dX3_marksAre_10 : decode cX3_marksAre 10 = .ok (.aload_n 0, 1) := by decide +kernel
theorem dX3_marksAre_11 : decode cX3_marksAre 11 = .ok (.iload_n 1, 1) := by decide +kernel
theorem dX3_marksAre_12 : decode cX3_marksAre 12 = .ok (.aload_n 0, 1) := by decide +kernel
theorem dX3_marksAre_13 : decode cX3_marksAre 13 = .ok (.getfield 66, 3) := by decide +kernel
theorem dX3_marksAre_16 : decode cX3_marksAre 16 = .ok (.iload_n 3, 1) := by decide +kernel
theorem dX3_marksAre_17 : decode cX3_marksAre 17 = .ok (.iadd, 1) := by decide +kernel
theorem dX3_marksAre_18 : decode cX3_marksAre 18 = .ok (.invokevirtual 97, 3) := by decide +kernel
theorem dX3_marksAre_21 : decode cX3_marksAre 21 = .ok (.aload_n 2, 1) := by decide +kernel
theorem dX3_marksAre_22 : decode cX3_marksAre 22 = .ok (.getfield 154, 3) := by decide +kernel
theorem dX3_marksAre_25 : decode cX3_marksAre 25 = .ok (.iload_n 3, 1) := by decide +kernel
theorem dX3_marksAre_26 : decode cX3_marksAre 26 = .ok (.iaload, 1) := by decide +kernel
theorem dX3_marksAre_27 : decode cX3_marksAre 27 = .ok (.if_icmp .eq 5, 3) := by decide +kernel
theorem dX3_marksAre_30 : decode cX3_marksAre 30 = .ok (.iconst 0, 1) := by decide +kernel
theorem dX3_marksAre_31 : decode cX3_marksAre 31 = .ok (.ireturn, 1) := by decide +kernel
theorem dX3_marksAre_32 : decode cX3_marksAre 32 = .ok (.iinc 3 1, 3) := by decide +kernel
theorem dX3_marksAre_35 : decode cX3_marksAre 35 = .ok (.goto (-33), 3) := by decide +kernel
theorem dX3_marksAre_38 : decode cX3_marksAre 38 = .ok (.iconst 1, 1) := by decide +kernel
theorem dX3_marksAre_39 : decode cX3_marksAre 39 = .ok (.ireturn, 1) := by decide +kernel
theorem dX3_takeOffsets_0 : decode cX3_takeOffsets 0 = .ok (.aload_n 1, 1) := by decide +kernel
theorem dX3_takeOffsets_1 : decode cX3_takeOffsets 1 = .ok (.getfield 149, 3) := by decide +kernel
theorem dX3_takeOffsets_4 : decode cX3_takeOffsets 4 = .ok (.aload_n 0, 1) := by decide +kernel
theorem dX3_takeOffsets_5 : decode cX3_takeOffsets 5 = .ok (.getfield 51, 3) := by decide +kernel
theorem dX3_takeOffsets_8 : decode cX3_takeOffsets 8 = .ok (.invokestatic 106, 3) := by decide +kernel
theorem dX3_takeOffsets_11 : decode cX3_takeOffsets 11 = .ok (.istore_n 2, 1) := by decide +kernel
theorem dX3_takeOffsets_12 : decode cX3_takeOffsets 12 = .ok (.iconst 0, 1) := by decide +kernel
theorem dX3_takeOffsets_13 : decode cX3_takeOffsets 13 = .ok (.istore_n 3, 1) := by decide +kernel
theorem dX3_takeOffsets_14 : decode cX3_takeOffsets 14 = .ok (.iload_n 3, 1) := by decide +kernel
theorem dX3_takeOffsets_15 : decode cX3_takeOffsets 15 = .ok (.iload_n 2, 1) := by decide +kernel
theorem dX3_takeOffsets_16 : decode cX3_takeOffsets 16 = .ok (.if_icmp .ge 39, 3) := by decide +kernel
theorem dX3_takeOffsets_19 : decode cX3_takeOffsets 19 = .ok (.aload_n 1, 1) := by decide +kernel
theorem dX3_takeOffsets_20 : decode cX3_takeOffsets 20 = .ok (.getfield 154, 3) := by decide +kernel
theorem dX3_takeOffsets_23 : decode cX3_takeOffsets 23 = .ok (.iload_n 3, 1) := by decide +kernel
theorem dX3_takeOffsets_24 : decode cX3_takeOffsets 24 = .ok (.iaload, 1) := by decide +kernel
theorem dX3_takeOffsets_25 : decode cX3_takeOffsets 25 = .ok (.iconst 0, 1) := by decide +kernel
theorem dX3_takeOffsets_26 : decode cX3_takeOffsets 26 = .ok (.sipush 1439, 3) := by decide +kernel
theorem dX3_takeOffsets_29 : decode cX3_takeOffsets 29 = .ok (.invokestatic 85, 3) := by decide +kernel
theorem dX3_takeOffsets_32 : decode cX3_takeOffsets 32 = .ok (.ifCond .ne 5, 3) := by decide +kernel
theorem dX3_takeOffsets_35 : decode cX3_takeOffsets 35 = .ok (.iload_n 3, 1) := by decide +kernel
theorem dX3_takeOffsets_36 : decode cX3_takeOffsets 36 = .ok (.ireturn, 1) := by decide +kernel
theorem dX3_takeOffsets_37 : decode cX3_takeOffsets 37 = .ok (.aload_n 0, 1) := by decide +kernel
theorem dX3_takeOffsets_38 : decode cX3_takeOffsets 38 = .ok (.getfield 15, 3) := by decide +kernel
theorem dX3_takeOffsets_41 : decode cX3_takeOffsets 41 = .ok (.iload_n 3, 1) := by decide +kernel
theorem dX3_takeOffsets_42 : decode cX3_takeOffsets 42 = .ok (.aload_n 1, 1) := by decide +kernel
theorem dX3_takeOffsets_43 : decode cX3_takeOffsets 43 = .ok (.getfield 154, 3) := by decide +kernel
theorem dX3_takeOffsets_46 : decode cX3_takeOffsets 46 = .ok (.iload_n 3, 1) := by decide +kernel
theorem dX3_takeOffsets_47 : decode cX3_takeOffsets 47 = .ok (.iaload, 1) := by decide +kernel
theorem dX3_takeOffsets_48 : decode cX3_takeOffsets 48 = .ok (.iastore, 1) := by decide +kernel
theorem dX3_takeOffsets_49 : decode cX3_takeOffsets 49 = .ok (.iinc 3 1, 3) := by decide +kernel
theorem dX3_takeOffsets_52 : decode cX3_takeOffsets 52 = .ok (.goto (-38), 3) := by decide +kernel
theorem dX3_takeOffsets_55 : decode cX3_takeOffsets 55 = .ok (.iload_n 2, 1) := by decide +kernel
theorem dX3_takeOffsets_56 : decode cX3_takeOffsets 56 = .ok (.ireturn, 1) := by decide +kernel
theorem dX3_rightRooms_0 : decode cX3_rightRooms 0 = .ok (.aload_n 1, 1) := by decide +kernel
theorem dX3_rightRooms_1 : decode cX3_rightRooms 1 = .ok (.getfield 149, 3) := by decide +kernel
theorem dX3_rightRooms_4 : decode cX3_rightRooms 4 = .ok (.aload_n 0, 1) := by decide +kernel
theorem dX3_rightRooms_5 : decode cX3_rightRooms 5 = .ok (.getfield 63, 3) := by decide +kernel
theorem dX3_rightRooms_8 : decode cX3_rightRooms 8 = .ok (.invokestatic 106, 3) := by decide +kernel
theorem dX3_rightRooms_11 : decode cX3_rightRooms 11 = .ok (.istore_n 2, 1) := by decide +kernel
theorem dX3_rightRooms_12 : decode cX3_rightRooms 12 = .ok (.iconst 0, 1) := by decide +kernel
theorem dX3_rightRooms_13 : decode cX3_rightRooms 13 = .ok (.istore_n 3, 1) := by decide +kernel
theorem dX3_rightRooms_14 : decode cX3_rightRooms 14 = .ok (.iload_n 3, 1) := by decide +kernel
theorem dX3_rightRooms_15 : decode cX3_rightRooms 15 = .ok (.iload_n 2, 1) := by decide +kernel
theorem dX3_rightRooms_16 : decode cX3_rightRooms 16 = .ok (.if_icmp .ge 26, 3) := by decide +kernel
theorem dX3_rightRooms_19 : decode cX3_rightRooms 19 = .ok (.aload_n 0, 1) := by decide +kernel
theorem dX3_rightRooms_20 : decode cX3_rightRooms 20 = .ok (.getfield 30, 3) := by decide +kernel
theorem dX3_rightRooms_23 : decode cX3_rightRooms 23 = .ok (.iload_n 3, 1) := by decide +kernel
theorem dX3_rightRooms_24 : decode cX3_rightRooms 24 = .ok (.iaload, 1) := by decide +kernel
theorem dX3_rightRooms_25 : decode cX3_rightRooms 25 = .ok (.aload_n 1, 1) := by decide +kernel
theorem dX3_rightRooms_26 : decode cX3_rightRooms 26 = .ok (.getfield 154, 3) := by decide +kernel
theorem dX3_rightRooms_29 : decode cX3_rightRooms 29 = .ok (.iload_n 3, 1) := by decide +kernel
theorem dX3_rightRooms_30 : decode cX3_rightRooms 30 = .ok (.iaload, 1) := by decide +kernel
theorem dX3_rightRooms_31 : decode cX3_rightRooms 31 = .ok (.if_icmp .eq 5, 3) := by decide +kernel
theorem dX3_rightRooms_34 : decode cX3_rightRooms 34 = .ok (.iload_n 3, 1) := by decide +kernel
theorem dX3_rightRooms_35 : decode cX3_rightRooms 35 = .ok (.ireturn, 1) := by decide +kernel
theorem dX3_rightRooms_36 : decode cX3_rightRooms 36 = .ok (.iinc 3 1, 3) := by decide +kernel
theorem dX3_rightRooms_39 : decode cX3_rightRooms 39 = .ok (.goto (-25), 3) := by decide +kernel
theorem dX3_rightRooms_42 : decode cX3_rightRooms 42 = .ok (.iload_n 2, 1) := by decide +kernel
theorem dX3_rightRooms_43 : decode cX3_rightRooms 43 = .ok (.ireturn, 1) := by decide +kernel
theorem dX3_firstWrongMark_0 : decode cX3_firstWrongMark 0 = .ok (.iconst 0, 1) := by decide +kernel
theorem dX3_firstWrongMark_1 : decode cX3_firstWrongMark 1 = .ok (.istore_n 1, 1) := by decide +kernel
theorem dX3_firstWrongMark_2 : decode cX3_firstWrongMark 2 = .ok (.iload_n 1, 1) := by decide +kernel
theorem dX3_firstWrongMark_3 : decode cX3_firstWrongMark 3 = .ok (.aload_n 0, 1) := by decide +kernel
theorem dX3_firstWrongMark_4 : decode cX3_firstWrongMark 4 = .ok (.getfield 72, 3) := by decide +kernel
theorem dX3_firstWrongMark_7 : decode cX3_firstWrongMark 7 = .ok (.if_icmp .ge 37, 3) := by decide +kernel
theorem dX3_firstWrongMark_10 : decode cX3_firstWrongMark 10 = .ok (.aload_n 0, 1) := by decide +kernel
theorem dX3_firstWrongMark_11 : decode cX3_firstWrongMark 11 = .ok (.iload_n 1, 1) := by decide +kernel
theorem dX3_firstWrongMark_12 : decode cX3_firstWrongMark 12 = .ok (.invokevirtual 157, 3) := by decide +kernel
theorem dX3_firstWrongMark_15 : decode cX3_firstWrongMark 15 = .ok (.ifCond .eq 21, 3) := by decide +kernel
theorem dX3_firstWrongMark_18 : decode cX3_firstWrongMark 18 = .ok (.aload_n 0, 1) := by decide +kernel
theorem dX3_firstWrongMark_19 : decode cX3_firstWrongMark 19 = .ok (.getfield 41, 3) := by decide +kernel
theorem dX3_firstWrongMark_22 : decode cX3_firstWrongMark 22 = .ok (.iload_n 1, 1) := by decide +kernel
theorem dX3_firstWrongMark_23 : decode cX3_firstWrongMark 23 = .ok (.iaload, 1) := by decide +kernel
theorem dX3_firstWrongMark_24 : decode cX3_firstWrongMark 24 = .ok (.aload_n 0, 1) := by decide +kernel
theorem dX3_firstWrongMark_25 : decode cX3_firstWrongMark 25 = .ok (.iload_n 1, 1) := by decide +kernel
theorem dX3_firstWrongMark_26 : decode cX3_firstWrongMark 26 = .ok (.aload_n 0, 1) := by decide +kernel
theorem dX3_firstWrongMark_27 : decode cX3_firstWrongMark 27 = .ok (.getfield 66, 3) := by decide +kernel
theorem dX3_firstWrongMark_30 : decode cX3_firstWrongMark 30 = .ok (.invokevirtual 97, 3) := by decide +kernel
theorem dX3_firstWrongMark_33 : decode cX3_firstWrongMark 33 = .ok (.if_icmp .eq 5, 3) := by decide +kernel
theorem dX3_firstWrongMark_36 : decode cX3_firstWrongMark 36 = .ok (.iload_n 1, 1) := by decide +kernel
theorem dX3_firstWrongMark_37 : decode cX3_firstWrongMark 37 = .ok (.ireturn, 1) := by decide +kernel
theorem dX3_firstWrongMark_38 : decode cX3_firstWrongMark 38 = .ok (.iinc 1 1, 3) := by decide +kernel
theorem dX3_firstWrongMark_41 : decode cX3_firstWrongMark 41 = .ok (.goto (-39), 3) := by decide +kernel
theorem dX3_firstWrongMark_44 : decode cX3_firstWrongMark 44 = .ok (.iconst (-1), 1) := by decide +kernel
theorem dX3_firstWrongMark_45 : decode cX3_firstWrongMark 45 = .ok (.ireturn, 1) := by decide +kernel
